/** Promise 7: the INSTRUCTIONS of SEMAPHORES, LATCHES, BARRIERS, QUEUES, FUTURES and GATES. */
public final class KindsTest {
  public static void main(String[] args) {
    semaphores();
    latches();
    barriers();
    queues();
    queuesThatAreFull();
    futures();
    gates();
    gateRows();
    Script.finish();
  }

  private static void semaphores() {
    Script.run("acquire, release", """
        make 1 2 -> 0
        thread load 7; acquire 0 2; release 0 1; release 0 1; release 0 5; drain 0 -> 0
        thread acquire 0 3 -> 1
        thread acquire 0 1; end -> 2
        thread acquire 0 9 -> 3
        steps 0 0 1 -> 1 1 2
        sync 0 0 -> 0
        step 0 -> 1
        sync 0 0 -> 1
        step 2 -> 2
        view 2 -> 2 0 0 0 0 0
        sync 0 1 -> 2
        steps 3 0 -> 2 1
        sync 0 0 -> 2
        step 0 -> 1
        sync 0 0 -> 3
        sync 0 1 -> 1
        look 1 0 -> 4
        view 2 -> 1 0 1 -1 0 0
        look 3 0 -> 2
        step 0 -> 4
        look 0 1 -> 3
        sync 0 0 -> 0
        """);
    Script.run("PERMITS below 0", """
        make 1 -2 -> 0
        thread load 4; drain 0; release 0 2; acquire 0 1; end -> 0
        thread release 0 1 -> 1
        steps 0 0 -> 1 1
        look 0 1 -> 0
        sync 0 0 -> -2
        step 0 -> 1
        sync 0 0 -> 0
        step 0 -> 2
        step 1 -> 4
        view 0 -> 1 0 4 -1 0 0
        sync 0 0 -> 0
        """);
    Script.run("PERMITS that wrap", """
        make 1 2147483647 -> 0
        thread release 0 1; drain 0 -> 0
        step 0 -> 1
        sync 0 0 -> -2147483648
        step 0 -> 4
        look 0 1 -> 0
        """);
  }

  private static void latches() {
    Script.run("down, await", """
        make 2 2 -> 0
        thread await 0; await 0; end -> 0
        thread await 0 -> 1
        thread load 3; down 0; down 0; down 0; await 0 -> 2
        steps 1 0 2 2 -> 2 2 1 1
        sync 0 0 -> 1
        sync 0 1 -> 2
        step 2 -> 1
        sync 0 0 -> 0
        sync 0 1 -> 0
        view 0 -> 1 0 1 -1 0 0
        look 1 0 -> 4
        steps 2 2 0 -> 1 4 1
        sync 0 0 -> 0
        look 2 1 -> 3
        """);
    Script.run("a LATCH of 0", """
        make 2 0 -> 0
        thread await 0; down 0 -> 0
        steps 0 0 -> 1 4
        sync 0 0 -> 0
        """);
  }

  private static void barriers() {
    Script.run("meet", """
        make 3 3 -> 0
        thread load 9; meet 0; meet 0 -> 0
        thread meet 0 -> 1
        thread meet 0; end -> 2
        steps 0 0 -> 1 2
        view 0 -> 2 2 1 0 0 0
        sync 0 0 -> 1
        step 2 -> 2
        look 2 1 -> 1
        sync 0 0 -> 2
        sync 0 1 -> 2
        step 1 -> 4
        look 1 1 -> 0
        sync 0 0 -> 0
        view 0 -> 1 2 2 -1 0 0
        view 2 -> 1 1 1 -1 0 0
        step 0 -> 2
        look 0 1 -> 2
        """);
    Script.run("a BARRIER of 1", """
        make 3 1 -> 0
        thread load 9; meet 0 -> 0
        steps 0 0 -> 1 4
        look 0 1 -> 0
        """);
  }

  private static void queues() {
    Script.run("put and take in order", """
        make 4 3 -> 0
        thread load 1; put 0; load 2; put 0; load 3; offer 0; load 4; offer 0 -> 0
        thread take 0; poll 0; take 0; poll 0; take 0; end -> 1
        run 1 0 5 -> 5
        sync 0 0 -> 2
        look 0 1 -> 3
        step 0 -> 1
        look 0 1 -> 1
        sync 0 0 -> 3
        steps 0 0 -> 1 4
        look 0 1 -> 0
        step 1 -> 1
        look 1 1 -> 1
        step 1 -> 1
        look 1 1 -> 2
        step 1 -> 1
        look 1 1 -> 3
        step 1 -> 1
        look 1 1 -> -1
        sync 0 0 -> 0
        step 1 -> 2
        """);
    Script.run("to one that waits to take at once", """
        make 4 1 -> 0
        thread take 0 -> 0
        thread load 5; take 0; end -> 1
        thread load 8; put 0; offer 0; offer 0; offer 0 -> 2
        steps 0 1 1 2 2 -> 2 1 2 1 1
        view 0 -> 4 8 -1 -1 0 0
        look 1 0 -> 2
        look 2 1 -> 8
        sync 0 0 -> 0
        sync 0 1 -> 1
        step 2 -> 1
        view 1 -> 1 8 2 -1 0 0
        look 2 1 -> 1
        sync 0 0 -> 0
        step 2 -> 1
        sync 0 0 -> 1
        look 2 1 -> 1
        step 2 -> 4
        look 2 1 -> 0
        """);
  }

  private static void queuesThatAreFull() {
    Script.run("those that wait to put", """
        make 4 1 -> 0
        thread load 1; put 0; end -> 0
        thread load 2; put 0; end -> 1
        thread load 3; put 0 -> 2
        thread take 0; poll 0; take 0; poll 0 -> 3
        steps 0 0 1 1 2 2 -> 1 1 1 2 1 2
        sync 0 0 -> 1
        sync 0 1 -> 2
        sync 0 4 -> 1
        step 3 -> 1
        look 3 1 -> 1
        view 1 -> 1 2 2 -1 0 0
        sync 0 0 -> 1
        sync 0 1 -> 1
        step 3 -> 1
        look 3 1 -> 2
        view 2 -> 4 3 -1 -1 0 0
        step 3 -> 1
        look 3 1 -> 3
        step 3 -> 4
        look 3 1 -> -1
        """);
    Script.run("a QUEUE goes round", """
        make 4 3 -> 0
        thread put 0; add 1; put 0; add 1; take 0; add 10; put 0; take 0; add 20; put 0; take 0; put 0; poll 0 -> 0
        run 1 0 11 -> 11
        look 0 1 -> 10
        sync 0 0 -> 1
        run 1 0 1 -> 1
        sync 0 0 -> 2
        run 1 0 1 -> 1
        look 0 1 -> 21
        """);
  }

  private static void futures() {
    Script.run("give, join", """
        make 6 0 -> 0
        thread join 0; end -> 0
        thread load 2; join 0 -> 1
        thread load -6; give 0; load 5; give 0; join 0 -> 2
        steps 1 1 0 -> 1 2 2
        sync 0 0 -> 1099511627776
        sync 0 1 -> 2
        steps 2 2 -> 1 1
        look 2 1 -> 1
        view 0 -> 1 -6 1 -1 0 0
        view 1 -> 4 -6 -1 -1 0 0
        sync 0 0 -> -6
        sync 0 1 -> 0
        steps 2 2 -> 1 1
        look 2 1 -> 0
        sync 0 0 -> -6
        step 2 -> 4
        look 2 1 -> -6
        """);
  }

  private static void gates() {
    Script.run("in, out, own, back", """
        make 7 0 -> 0
        thread load 4; in 0; in 0; out 0; out 0; out 0 -> 0
        thread own 0; back 0; back 0 -> 1
        thread out 0 -> 2
        steps 2 0 0 0 -> 5 1 1 1
        look 2 5 -> 3
        sync 0 0 -> 2
        sync 0 2 -> -1
        steps 1 0 -> 2 1
        sync 0 1 -> 1
        sync 0 0 -> 1
        step 0 -> 1
        sync 0 0 -> 0
        sync 0 1 -> 0
        sync 0 2 -> 1
        view 1 -> 1 0 1 -1 0 0
        step 0 -> 5
        view 0 -> 5 4 5 -1 0 3
        step 1 -> 1
        sync 0 2 -> -1
        step 1 -> 5
        view 1 -> 5 0 2 -1 0 1
        """);
    Script.run("its own GATE holds it up too", """
        make 7 0 -> 0
        thread own 0; own 0; end -> 0
        thread own 0; in 0; end -> 1
        steps 0 0 -> 1 2
        drop 0 -> ISE
        interrupt 0 -> 1
        view 0 -> 1 -2 2 -1 0 0
        step 0 -> 4
        sync 0 2 -> 0
        step 1 -> 2
        thread back 0 -> 0
        step 0 -> 4
        sync 0 2 -> 1
        step 1 -> 2
        dead -> -1
        """);
  }

  private static void gateRows() {
    Script.run("readers up to the first at own", """
        make 7 0 -> 0
        thread own 0; back 0 -> 0
        thread in 0; out 0 -> 1
        thread in 0; out 0 -> 2
        thread own 0; back 0 -> 3
        thread in 0; out 0 -> 4
        thread own 0; back 0 -> 5
        thread in 0; out 0 -> 6
        steps 0 1 2 3 4 5 -> 1 2 2 2 2 2
        sync 0 1 -> 5
        step 0 -> 4
        sync 0 0 -> 2
        sync 0 1 -> 3
        sync 0 2 -> -1
        view 1 -> 1 0 1 -1 0 0
        step 6 -> 2
        sync 0 0 -> 2
        steps 2 1 -> 4 4
        sync 0 2 -> 3
        sync 0 0 -> 0
        sync 0 1 -> 3
        step 3 -> 4
        sync 0 0 -> 1
        sync 0 1 -> 2
        step 4 -> 4
        sync 0 2 -> 5
        step 5 -> 4
        sync 0 0 -> 1
        sync 0 2 -> -1
        sync 0 1 -> 0
        step 6 -> 4
        """);
    Script.run("back with own first", """
        make 7 0 -> 0
        thread own 0; back 0 -> 0
        thread own 0; back 0 -> 1
        thread own 0; back 0 -> 2
        thread in 0; end -> 3
        steps 0 1 2 3 0 -> 1 2 2 2 4
        sync 0 2 -> 1
        step 1 -> 4
        sync 0 2 -> 2
        sync 0 0 -> 0
        step 2 -> 4
        sync 0 0 -> 1
        """);
    Script.run("a GATE of one that ENDED", """
        make 7 0 -> 0
        thread own 0 -> 0
        step 0 -> 4
        sync 0 2 -> 0
        thread back 0 -> 0
        step 0 -> 4
        sync 0 2 -> -1
        """);
  }
}
