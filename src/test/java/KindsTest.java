/** Promise 7: the INSTRUCTIONS of SEMAPHORES, LATCHES, BARRIERS and FUTURES. */
public final class KindsTest {
  public static void main(String[] args) {
    acquires();
    releases();
    drains();
    latches();
    barriers();
    futures();
    inTheirOrder();
    Script.finish();
  }

  private static void acquires() {
    String sentence = "PERMITS n or more and none waits: n less; else it waits.";
    Script.run(sentence, "as many as there are, one more", """
        make 1 3 -> 0
        thread load 7; acquire 0 3; end -> 0
        thread acquire 0 1; end -> 1
        steps 0 0 1 -> 1 1 2
        view 0 -> 1 7 2 -1 0 0
        view 1 -> 2 0 0 0 0 0
        sync 0 0 -> 0
        """);
    Script.run(sentence, "one too few", """
        make 1 2 -> 0
        thread acquire 0 3; end -> 0
        step 0 -> 2
        sync 0 0 -> 2
        sync 0 1 -> 1
        """);
    Script.run(sentence, "enough, but one waits", """
        make 1 2 -> 0
        thread acquire 0 3; end -> 0
        thread acquire 0 1; end -> 1
        steps 0 1 -> 2 2
        sync 0 0 -> 2
        sync 0 1 -> 2
        """);
    Script.run(sentence, "PERMITS below 0, the least, the most", """
        make 1 -2147483648 -> 0
        make 1 2147483647 -> 1
        make 1 -1 -> 2
        thread acquire 1 999999999; acquire 1 999999999; acquire 1 147483649; acquire 0 1 -> 0
        thread acquire 2 1 -> 1
        steps 0 0 0 1 -> 1 1 1 2
        sync 1 0 -> 0
        step 0 -> 2
        sync 0 0 -> -2147483648
        sync 2 0 -> -1
        """);
  }

  private static void releases() {
    String sentence = "n more; as long as the first that waits can have its n it has them.";
    Script.run(sentence, "none waits", """
        make 1 0 -> 0
        thread load 3; release 0 1; release 0 999999999; end -> 0
        steps 0 0 -> 1 1
        sync 0 0 -> 1
        step 0 -> 1
        sync 0 0 -> 1000000000
        look 0 1 -> 3
        """);
    Script.run(sentence, "one too few, enough for the first, for more, not for the last", """
        make 1 0 -> 0
        thread release 0 2; release 0 1; release 0 5; end -> 0
        thread acquire 0 3 -> 1
        thread acquire 0 1; end -> 2
        thread acquire 0 2; end -> 3
        thread acquire 0 9; end -> 4
        thread acquire 0 1; end -> 5
        steps 1 2 3 4 5 0 -> 2 2 2 2 2 1
        sync 0 0 -> 2
        sync 0 1 -> 5
        step 0 -> 1
        sync 0 0 -> 0
        sync 0 1 -> 4
        look 1 0 -> 4
        look 2 0 -> 2
        step 0 -> 1
        sync 0 0 -> 2
        sync 0 1 -> 2
        view 2 -> 1 0 1 -1 0 0
        view 3 -> 1 0 1 -1 0 0
        look 4 0 -> 2
        look 5 0 -> 2
        """);
    Script.run(sentence, "seven at once", "make 1 -7 -> 0\n" + Script.lines(7, "thread acquire 0 1 -> #") + """
        thread release 0 14 -> 7
        run 1 0 7 -> 7
        step 7 -> 4
        sync 0 0 -> 0
        sync 0 1 -> 0
        """);
    Script.run(sentence, "PERMITS wrap", """
        make 1 2147483647 -> 0
        thread release 0 1; drain 0; acquire 0 1 -> 0
        step 0 -> 1
        sync 0 0 -> -2147483648
        step 0 -> 1
        look 0 1 -> 0
        sync 0 0 -> -2147483648
        step 0 -> 2
        """);
    Script.run(sentence, "from below 0", """
        make 1 -2 -> 0
        thread acquire 0 1; end -> 0
        thread release 0 2; release 0 1 -> 1
        steps 0 1 -> 2 1
        sync 0 0 -> 0
        look 0 0 -> 2
        step 1 -> 4
        look 0 0 -> 1
        sync 0 0 -> 0
        """);
  }

  private static void drains() {
    String sentence = "drain o: A is PERMITS, if above 0, these 0 then; else 0.";
    for (int permits : new int[] {Integer.MIN_VALUE, -1, 0, 1, Integer.MAX_VALUE}) {
      Script.run(sentence, "" + permits, "make 1 " + permits + " -> 0\nthread load 7; drain 0 -> 0\nsteps 0 0 -> 1 4\n"
          + "look 0 1 -> " + Math.max(permits, 0) + "\nsync 0 0 -> " + Math.min(permits, 0) + "\n");
    }
    Script.run(sentence, "with one that waits", """
        make 1 2 -> 0
        thread acquire 0 3 -> 0
        thread drain 0; drain 0 -> 1
        steps 0 1 -> 2 1
        look 1 1 -> 2
        sync 0 0 -> 0
        sync 0 1 -> 1
        step 1 -> 4
        look 1 1 -> 0
        """);
  }

  private static void latches() {
    Script.run("down o: a LATCH above 0 is 1 less; at 0 all go on.", "2, 1, 0, and 0 again", """
        make 2 2 -> 0
        thread await 0; await 0; end -> 0
        thread await 0 -> 1
        thread load 3; down 0; down 0; down 0; await 0 -> 2
        steps 1 0 2 2 -> 2 2 1 1
        sync 0 0 -> 1
        sync 0 1 -> 2
        step 2 -> 1
        sync 0 0 -> 0
        sync 0 1 -> 0
        view 0 -> 1 0 1 -1 0 0
        look 1 0 -> 4
        steps 2 2 0 -> 1 4 1
        sync 0 0 -> 0
        look 2 1 -> 3
        """);
    Script.run("down o: a LATCH above 0 is 1 less; at 0 all go on.", "the most", """
        make 2 2147483647 -> 0
        thread down 0; await 0 -> 0
        steps 0 0 -> 1 2
        sync 0 0 -> 2147483646
        """);
    Script.run("down o: a LATCH above 0 is 1 less; at 0 all go on.", "seven at once", "make 2 1 -> 0\n"
        + Script.lines(7, "thread await 0; end -> #") + "thread down 0; end -> 7\nrun 1 0 7 -> 7\nsync 0 1 -> 7\n"
        + "step 7 -> 1\nsync 0 1 -> 0\n" + Script.lines(8, "view # -> 1 0 1 -1 0 0"));
    Script.run("await o: at 0 nothing; else it waits.", "0 from the first", """
        make 2 0 -> 0
        make 2 1 -> 1
        thread load 4; await 0; await 1 -> 0
        steps 0 0 -> 1 1
        view 0 -> 1 4 2 -1 0 0
        step 0 -> 2
        view 0 -> 2 4 2 1 0 0
        """);
    Script.run("await o: at 0 nothing; else it waits.", "down of one that is 0 from the first", """
        make 2 0 -> 0
        thread down 0; await 0 -> 0
        steps 0 0 -> 1 4
        sync 0 0 -> 0
        """);
  }

  private static void barriers() {
    String sentence = "meet o: A is how many are still missing; none: all that wait go on; else it waits.";
    Script.run(sentence, "a BARRIER of 1", """
        make 3 1 -> 0
        thread load 9; meet 0; meet 0 -> 0
        steps 0 0 -> 1 1
        look 0 1 -> 0
        sync 0 0 -> 0
        step 0 -> 4
        look 0 1 -> 0
        """);
    Script.run(sentence, "a BARRIER of 8", "make 3 8 -> 0\n" + Script.lines(8, "thread load 99; meet 0; end -> #") + """
        run 1 0 14 -> 14
        look 0 1 -> 7
        look 1 1 -> 6
        look 6 1 -> 1
        look 6 0 -> 2
        sync 0 0 -> 7
        run 1 0 2 -> 2
        look 0 0 -> 1
        look 6 0 -> 1
        view 7 -> 1 0 2 -1 0 0
        sync 0 0 -> 0
        """);
    Script.run(sentence, "again, and in another order", """
        make 3 3 -> 0
        thread load 9; meet 0; meet 0 -> 0
        thread meet 0 -> 1
        thread meet 0; end -> 2
        steps 0 0 -> 1 2
        view 0 -> 2 2 1 0 0 0
        step 2 -> 2
        look 2 1 -> 1
        step 1 -> 4
        look 1 1 -> 0
        view 0 -> 1 2 2 -1 0 0
        view 2 -> 1 1 1 -1 0 0
        step 0 -> 2
        look 0 1 -> 2
        """);
  }

  private static void futures() {
    String sentence = "give o: a FUTURE without VALUE has A, all that wait go on with it, A is 1; else A is 0.";
    Script.run(sentence, "none waits, then it has one", """
        make 6 0 -> 0
        thread load -6; give 0; load 5; give 0; join 0 -> 0
        steps 0 0 -> 1 1
        look 0 1 -> 1
        sync 0 0 -> -6
        steps 0 0 -> 1 1
        look 0 1 -> 0
        sync 0 0 -> -6
        step 0 -> 4
        look 0 1 -> -6
        """);
    Script.run(sentence, "a VALUE of 0 is one", """
        make 6 0 -> 0
        thread give 0; load 5; give 0 -> 0
        run 1 0 9 -> 3
        look 0 1 -> 0
        sync 0 0 -> 0
        """);
    Script.run(sentence, "seven wait", "make 6 0 -> 0\n" + Script.lines(7, "thread load #; join 0; end -> #")
        + "thread load -1; give 0; end -> 7\nrun 1 0 14 -> 14\nsync 0 1 -> 7\nsteps 7 7 -> 1 1\nsync 0 1 -> 0\n"
        + Script.lines(7, "view # -> 1 -1 2 -1 0 0") + "view 7 -> 1 1 2 -1 0 0\n");
    Script.run("join o: A is its VALUE; none: it waits.", "without one, with one", """
        make 6 0 -> 0
        thread load 2; join 0; end -> 0
        thread load 8; give 0; join 0 -> 1
        steps 0 0 -> 1 2
        view 0 -> 2 2 1 0 0 0
        steps 1 1 1 -> 1 1 4
        view 0 -> 1 8 2 -1 0 0
        look 1 1 -> 8
        """);
  }

  private static void inTheirOrder() {
    Script.run("Those that wait for one OBJECT go on in the order in which they came", "a SEMAPHORE", "make 1 0 -> 0\n"
        + Script.lines(7, "thread acquire 0 1 -> #") + """
        thread release 0 1; jump 0 -> 7
        steps 3 6 0 5 1 4 2 -> 2 2 2 2 2 2 2
        steps 7 7 3 6 -> 1 1 4 2
        steps 7 7 6 0 -> 1 1 4 2
        steps 7 7 0 5 -> 1 1 4 2
        steps 7 7 5 1 -> 1 1 4 2
        steps 7 7 1 4 -> 1 1 4 2
        steps 7 7 4 2 -> 1 1 4 2
        steps 7 7 2 -> 1 1 4
        """);
    Script.run("where they stood their INSTRUCTION is done.", "a SEMAPHORE's and a FUTURE's", """
        make 1 0 -> 0
        make 6 0 -> 1
        thread acquire 0 1; join 1; end -> 0
        thread release 0 1; give 1 -> 1
        steps 0 1 -> 2 1
        view 0 -> 1 0 1 -1 0 0
        sync 0 0 -> 0
        steps 0 1 -> 2 4
        view 0 -> 1 0 2 -1 0 0
        """);
  }
}
