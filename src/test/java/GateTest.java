/** Promise 7: the INSTRUCTIONS of a GATE. */
public final class GateTest {
  public static void main(String[] args) {
    ins();
    outs();
    owns();
    backs();
    rows();
    Script.finish();
  }

  private static void ins() {
    String sentence = "in o: it has no owner, and none waits: READERS 1 more; else it waits.";
    Script.run(sentence, "the first, one more, the same again", """
        make 7 0 -> 0
        thread load 4; in 0; in 0; end -> 0
        thread in 0; end -> 1
        steps 0 0 -> 1 1
        sync 0 0 -> 1
        step 1 -> 1
        sync 0 0 -> 2
        step 0 -> 1
        sync 0 0 -> 3
        sync 0 2 -> -1
        look 0 1 -> 4
        """);
    Script.run(sentence, "an owner, another and itself", """
        make 7 0 -> 0
        thread own 0; in 0; end -> 0
        thread in 0; end -> 1
        steps 0 1 0 -> 1 2 2
        sync 0 0 -> 0
        sync 0 1 -> 2
        view 1 -> 2 0 0 0 0 0
        """);
    Script.run(sentence, "no owner, but one waits", """
        make 7 0 -> 0
        thread in 0; end -> 0
        thread own 0; end -> 1
        thread in 0; end -> 2
        steps 0 1 2 -> 1 2 2
        sync 0 0 -> 1
        sync 0 1 -> 2
        """);
    Script.run(sentence, "very often", """
        make 7 0 -> 0
        thread in 0; jump 0 -> 0
        run 1 0 4000 -> 4000
        sync 0 0 -> 2000
        """);
  }

  private static void outs() {
    String sentence = "out o: READERS 0: FAILED 3; else 1 less; none left: the row goes on.";
    Script.run(sentence, "none from the first, and none any more", """
        make 7 0 -> 0
        thread load 4; in 0; out 0; out 0; end -> 0
        thread out 0 -> 1
        step 1 -> 5
        view 1 -> 5 0 0 -1 0 3
        steps 0 0 0 -> 1 1 1
        sync 0 0 -> 0
        step 0 -> 5
        view 0 -> 5 4 3 -1 0 3
        """);
    Script.run(sentence, "an owner is no READER", """
        make 7 0 -> 0
        thread own 0; out 0 -> 0
        steps 0 0 -> 1 5
        look 0 5 -> 3
        sync 0 2 -> 0
        """);
    Script.run(sentence, "one left, none left", """
        make 7 0 -> 0
        thread in 0; in 0; out 0; out 0; end -> 0
        thread own 0; end -> 1
        steps 0 0 1 0 -> 1 1 2 1
        sync 0 0 -> 1
        look 1 0 -> 2
        step 0 -> 1
        sync 0 0 -> 0
        sync 0 1 -> 0
        sync 0 2 -> 1
        view 1 -> 1 0 1 -1 0 0
        """);
    Script.run(sentence, "of another's reading", """
        make 7 0 -> 0
        thread in 0; end -> 0
        thread out 0; end -> 1
        steps 0 1 -> 1 1
        sync 0 0 -> 0
        """);
  }

  private static void owns() {
    String sentence = "own o: neither owner nor READERS: its own; else it waits.";
    Script.run(sentence, "free, another's, one READER", """
        make 7 0 -> 0
        make 7 0 -> 1
        thread load 4; own 0; in 1; end -> 0
        thread own 0; end -> 1
        thread own 1; end -> 2
        steps 0 0 0 1 2 -> 1 1 1 2 2
        sync 0 2 -> 0
        sync 0 1 -> 1
        sync 1 2 -> -1
        sync 1 1 -> 1
        view 0 -> 1 4 3 -1 0 0
        """);
    Script.run(sentence, "its own already, its own reading", """
        make 7 0 -> 0
        make 7 0 -> 1
        thread own 0; own 0; in 1; own 1; end -> 0
        steps 0 0 -> 1 2
        interrupt 0 -> 1
        view 0 -> 1 -2 2 -1 0 0
        sync 0 2 -> 0
        steps 0 0 -> 1 2
        sync 1 0 -> 1
        dead -> -1
        """);
  }

  private static void backs() {
    Script.run("back o: not its own: FAILED 1", "free, another's, only read", """
        make 7 0 -> 0
        thread back 0 -> 0
        thread own 0; end -> 1
        thread back 0 -> 2
        thread in 0; back 0 -> 3
        step 0 -> 5
        view 0 -> 5 0 0 -1 0 1
        steps 1 2 -> 1 5
        look 2 5 -> 1
        sync 0 2 -> 1
        thread back 0; end -> 0
        step 0 -> 5
        interrupt 1 -> 1
        """);
    Script.run("back o: not its own: FAILED 1", "read by itself", """
        make 7 0 -> 0
        thread in 0; back 0 -> 0
        steps 0 0 -> 1 5
        look 0 5 -> 1
        sync 0 0 -> 1
        """);
    Script.run("else it is free, and the row goes on", "an empty row", """
        make 7 0 -> 0
        thread own 0; back 0; back 0 -> 0
        steps 0 0 -> 1 1
        sync 0 2 -> -1
        sync 0 0 -> 0
        step 0 -> 5
        look 0 5 -> 1
        """);
    Script.run("the first one, if it is at own, has it", "three at own, one at in", """
        make 7 0 -> 0
        thread own 0; back 0 -> 0
        thread own 0; back 0 -> 1
        thread own 0; back 0 -> 2
        thread in 0; end -> 3
        steps 0 1 2 3 0 -> 1 2 2 2 4
        sync 0 2 -> 1
        sync 0 1 -> 2
        view 1 -> 1 0 1 -1 0 0
        step 1 -> 4
        sync 0 2 -> 2
        sync 0 0 -> 0
        step 2 -> 4
        sync 0 0 -> 1
        sync 0 2 -> -1
        """);
    Script.run("else all at in up to the first at own, READERS more.", "seven at in", "make 7 0 -> 0\n"
        + Script.lines(7, "thread in 0; end -> #") + """
        thread own 0; back 0 -> 7
        step 7 -> 1
        run 1 0 7 -> 7
        sync 0 1 -> 7
        step 7 -> 4
        sync 0 0 -> 7
        sync 0 1 -> 0
        """ + Script.lines(7, "view # -> 1 0 1 -1 0 0"));
  }

  private static void rows() {
    Script.run("else all at in up to the first at own, READERS more.",
        "two at in, one at own, one at in, and so on", """
        make 7 0 -> 0
        thread own 0; back 0 -> 0
        thread in 0; out 0 -> 1
        thread in 0; out 0 -> 2
        thread own 0; back 0 -> 3
        thread in 0; out 0 -> 4
        thread own 0; back 0 -> 5
        thread in 0; out 0 -> 6
        steps 0 1 2 3 4 5 -> 1 2 2 2 2 2
        sync 0 1 -> 5
        step 0 -> 4
        sync 0 0 -> 2
        sync 0 1 -> 3
        sync 0 2 -> -1
        view 1 -> 1 0 1 -1 0 0
        step 6 -> 2
        sync 0 0 -> 2
        steps 2 1 -> 4 4
        sync 0 2 -> 3
        sync 0 0 -> 0
        sync 0 1 -> 3
        step 3 -> 4
        sync 0 0 -> 1
        sync 0 1 -> 2
        step 4 -> 4
        sync 0 2 -> 5
        step 5 -> 4
        sync 0 0 -> 1
        sync 0 2 -> -1
        sync 0 1 -> 0
        step 6 -> 4
        """);
  }
}
