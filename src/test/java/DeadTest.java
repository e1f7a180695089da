/** Promise 12: dead. */
public final class DeadTest {
  public static void main(String[] args) {
    withoutRings();
    rings();
    theLeast();
    Script.finish();
  }

  private static void withoutRings() {
    Script.run("-1 without.", "nobody, nobody that waits, one that waits for one that runs", """
        dead -> -1
        make 0 0 -> 0
        thread lock 0; end -> 0
        thread lock 0; end -> 1
        dead -> -1
        steps 0 1 -> 1 2
        dead -> -1
        step 0 -> 4
        dead -> -1
        """);
    Script.run("The least THREAD in a ring of those that wait at LOCKS of one another; -1 without.",
        "GATES make none", """
        make 7 0 -> 0
        make 7 0 -> 1
        thread own 0; own 1 -> 0
        thread own 1; own 0 -> 1
        steps 0 1 0 1 -> 1 1 2 2
        dead -> -1
        """);
    Script.run("each WAITING in a first row for a LOCK of the next",
        "one in the second row makes none, in the first it does", """
        make 0 1 -> 0
        make 0 1 -> 1
        thread lock 0; lock 1; wait 1; end -> 0
        thread lock 1; lock 0 -> 1
        steps 0 0 1 0 -> 1 1 2 2
        sync 1 2 -> 1
        step 1 -> 2
        dead -> -1
        interrupt 0 -> 1
        look 0 0 -> 2
        dead -> 0
        """);
    Script.run("each WAITING in a first row for a LOCK of the next",
        "READY in the row makes none, WAITING there does", """
        make 0 0 -> 0
        make 0 1 -> 1
        thread lock 1; lock 0; end -> 0
        thread lock 0; unlock 0; lock 0; lock 1 -> 1
        steps 0 1 0 1 1 1 -> 1 1 2 1 1 2
        look 0 0 -> 1
        dead -> -1
        step 0 -> 2
        dead -> 0
        """);
    Script.run("each WAITING in a first row for a LOCK of the next", "one asleep makes none", """
        make 0 1 -> 0
        make 0 1 -> 1
        thread lock 0; lock 1; end -> 0
        thread lock 1; sleep 1; lock 0; end -> 1
        steps 0 1 0 1 -> 1 1 2 3
        dead -> -1
        tick 1 -> 1
        dead -> -1
        step 1 -> 2
        dead -> 0
        """);
  }

  private static void rings() {
    String sentence = "dead(): the least THREAD of those in a ring";
    Script.run(sentence, "two, and it is over", """
        make 0 0 -> 0
        make 0 1 -> 1
        thread lock 0; lock 1; end -> 0
        thread lock 1; lock 0; end -> 1
        steps 0 1 0 -> 1 1 2
        dead -> -1
        step 1 -> 2
        dead -> 0
        interrupt 0 -> 1
        dead -> -1
        """);
    for (int apart = 1; apart < 8; apart += 2) {
      StringBuilder eight = new StringBuilder();
      StringBuilder then = new StringBuilder();
      for (int t = 0; t < 8; t++) {
        eight.append("make 0 " + (t & 1) + " -> " + t + "\n");
        eight.append("thread lock " + t + "; lock " + ((t + apart) & 7) + " -> " + t + "\n");
        then.append(t < 7 ? "" : "dead -> -1\n").append("step " + t + " -> 2\n");
      }
      Script.run(sentence,
          "all eight, " + apart + " apart", eight + "run 2 0 8 -> 8\ndead -> -1\n" + then + "dead -> 0\n");
    }
    Script.run(sentence, "6 and 7 alone", """
        make 0 1 -> 0
        make 0 1 -> 1
        """ + Script.lines(6, "thread end -> #") + """
        thread lock 0; lock 1 -> 6
        thread lock 1; lock 0 -> 7
        steps 6 7 6 7 -> 1 1 2 2
        dead -> 6
        """);
  }

  private static void theLeast() {
    Script.run("the least THREAD of those in a ring", "one that waits for a ring is not in it", """
        make 0 0 -> 0
        make 0 1 -> 1
        make 0 1 -> 2
        thread lock 2; lock 0 -> 0
        thread lock 0; lock 1 -> 1
        thread lock 1; lock 0 -> 2
        thread lock 2 -> 3
        steps 0 1 2 3 0 2 1 -> 1 1 1 2 2 2 2
        dead -> 1
        """);
    Script.run("the least THREAD of those in a ring", "two rings", """
        make 0 1 -> 0
        make 0 1 -> 1
        make 0 1 -> 2
        make 0 1 -> 3
        thread lock 0; lock 3 -> 0
        thread lock 1; lock 2 -> 1
        thread lock 2; lock 1 -> 2
        thread lock 3; lock 0 -> 3
        run 2 0 4 -> 4
        steps 1 2 -> 2 2
        dead -> 1
        steps 0 3 -> 2 2
        dead -> 0
        interrupt 3 -> 1
        dead -> 1
        """);
    Script.run("the least THREAD of those in a ring", "the next one with the number of one that ENDED", """
        make 0 1 -> 0
        make 0 1 -> 1
        thread lock 0 -> 0
        thread lock 1; lock 0 -> 1
        steps 0 1 1 -> 4 1 2
        dead -> -1
        thread lock 1; end -> 0
        dead -> -1
        step 0 -> 2
        dead -> 0
        """);
  }
}
