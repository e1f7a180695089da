/** Promise 11: look; 12: dead; 14: count. */
public final class LookTest {
  public static void main(String[] args) {
    lookRanges();
    lookAtStates();
    rings();
    noRings();
    counts();
    Script.finish();
  }

  private static void lookRanges() {
    Script.run("look ranges", """
        look -1 0 -> IAE
        look 8 0 -> IAE
        look 0 -1 -> IAE
        look 0 6 -> IAE
        look 7 2147483647 -> IAE
        look 7 5 -> 0
        look 7 2 -> -1
        look 7 3 -> -1
        """);
  }

  private static void lookAtStates() {
    Script.run("look", """
        make 5 0 -> 0
        make 2 1 -> 1
        thread load 1; await 1; end -> 0
        thread load 2; sleep 1 -> 1
        thread load 3; out 0 -> 2
        thread load 4; end -> 3
        thread load 5; await 1 -> 4
        steps 0 0 1 1 2 2 3 3 4 -> 1 2 1 3 1 5 1 4 1
        interrupt 4 -> 1
        view 0 -> 2 1 1 1 0 0
        view 1 -> 3 2 1 -1 0 0
        view 2 -> 5 3 1 -1 0 2
        view 3 -> 4 4 -1 -1 0 0
        view 4 -> 1 5 1 -1 1 0
        view 5 -> 0 0 -1 -1 0 0
        """);
  }

  private static void rings() {
    Script.run("a ring of two, with one behind it", """
        make 0 0 -> 0
        make 0 1 -> 1
        make 0 1 -> 2
        thread lock 2; lock 0 -> 0
        thread lock 0; lock 1 -> 1
        thread lock 1; lock 0 -> 2
        thread lock 2 -> 3
        dead -> -1
        steps 0 1 2 3 0 2 -> 1 1 1 2 2 2
        dead -> -1
        step 1 -> 2
        dead -> 1
        interrupt 1 -> 1
        dead -> -1
        """);
    StringBuilder eight = new StringBuilder();
    StringBuilder first = new StringBuilder();
    StringBuilder then = new StringBuilder();
    for (int t = 0; t < 8; t++) {
      eight.append("make 0 " + (t & 1) + " -> " + t + "\n");
      first.append("thread lock " + t + "; lock " + ((t + 3) & 7) + " -> " + t + "\n");
      then.append("step " + t + " -> 2\n");
    }
    Script.run("a ring of eight", eight + "" + first + "run 2 0 8 -> 8\ndead -> -1\n"
        + then.toString().replace("step 7 -> 2\n", "dead -> -1\nstep 7 -> 2\n") + "dead -> 0\n");
    Script.run("two rings: the least of all", """
        make 0 1 -> 0
        make 0 1 -> 1
        make 0 1 -> 2
        make 0 1 -> 3
        thread lock 0; lock 3 -> 0
        thread lock 1; lock 2 -> 1
        thread lock 2; lock 1 -> 2
        thread lock 3; lock 0 -> 3
        run 2 0 4 -> 4
        steps 1 2 -> 2 2
        dead -> 1
        steps 0 3 -> 2 2
        dead -> 0
        """);
    Script.run("one that comes back from wait", """
        make 0 1 -> 0
        make 0 1 -> 1
        thread lock 0; lock 1; wait 1; end -> 0
        thread lock 1; lock 0 -> 1
        steps 0 0 1 0 -> 1 1 2 2
        sync 1 2 -> 1
        step 1 -> 2
        dead -> -1
        interrupt 0 -> 1
        look 0 0 -> 2
        dead -> 0
        """);
  }

  private static void noRings() {
    Script.run("READY in the row is not WAITING", """
        make 0 0 -> 0
        make 0 1 -> 1
        thread lock 1; lock 0; end -> 0
        thread lock 0; unlock 0; lock 0; lock 1 -> 1
        steps 0 1 0 1 1 1 -> 1 1 2 1 1 2
        look 0 0 -> 1
        dead -> -1
        step 0 -> 2
        dead -> 0
        """);
    Script.run("GATES and ENDED ones make no ring", """
        make 7 0 -> 0
        make 7 0 -> 1
        make 0 0 -> 2
        thread own 0; own 1 -> 0
        thread own 1; own 0 -> 1
        thread lock 2 -> 2
        thread lock 2 -> 3
        steps 0 1 0 1 2 3 -> 1 1 2 2 4 2
        dead -> -1
        """);
  }

  private static void counts() {
    Script.run("count", """
        count -1 -> IAE
        count 5 -> IAE
        count 9 -> IAE
        count 34 -> IAE
        count 2147483647 -> IAE
        count -2147483648 -> IAE
        count 2 -> -1
        count 33 -> -1
        tape end; x -> 6
        count 0 -> 6
        thread -> UOE
        count 0 -> 0
        count 2 -> 5
        tape end -> 3
        count 2 -> 5
        thread -> 0
        count 2 -> -1
        thread -> UOE
        count 2 -> 0
        step 1 -> 0
        count 4 -> 0
        steps 0 0 -> 4 4
        count 4 -> 1
        thread unlock 0 -> 0
        step 0 -> 5
        count 4 -> 2
        tick 7 -> 0
        count 3 -> 7
        make 7 0 -> 0
        count 1 -> 1
        count 10 -> 7
        """);
  }
}
