/** Promise 10: interrupt of WAITING, SLEEPING, READY and other THREADS. */
public final class InterruptTest {
  public static void main(String[] args) {
    othersAndRanges();
    leavesItsRow();
    readyOnes();
    lockIsNotKeptFrom();
    waitInTheSecondRow();
    waitInTheFirstRow();
    readyInTheRow();
    Script.finish();
  }

  private static void othersAndRanges() {
    Script.run("interrupt ranges", """
        interrupt -1 -> IAE
        interrupt 8 -> IAE
        interrupt 0 -> 0
        look 0 4 -> 0
        thread end -> 0
        thread get 0 -> 1
        steps 0 1 -> 4 5
        interrupt 0 -> 0
        interrupt 1 -> 0
        view 0 -> 4 0 -1 -1 0 0
        view 1 -> 5 0 0 -1 0 2
        """);
  }

  private static void leavesItsRow() {
    String[] waits = {"1 0|acquire 0 1", "2 1|await 0", "3 2|meet 0", "4 1|take 0", "6 0|join 0"};
    for (String wait : waits) {
      int bar = wait.indexOf('|');
      String word = wait.substring(bar + 1);
      Script.run("interrupt at " + word, "make " + wait.substring(0, bar) + " -> 0\nthread " + word + "; end -> 0\n"
          + "step 0 -> 2\ninterrupt 0 -> 1\nview 0 -> 1 -2 1 -1 0 0\nsync 0 1 -> 0\nstep 0 -> 4\n");
      Script.run("READY before " + word, "make " + wait.substring(0, bar) + " -> 0\nthread " + word + "; " + word
          + " -> 0\ninterrupt 0 -> 1\ninterrupt 0 -> 1\nview 0 -> 1 0 0 -1 1 0\n"
          + "step 0 -> 1\nview 0 -> 1 -2 1 -1 0 0\nsync 0 1 -> 0\nstep 0 -> 2\n");
    }
    Script.run("interrupt at put, sleep, lock", """
        make 4 1 -> 0
        make 0 0 -> 1
        thread load 6; put 0; put 0; sleep 3; lock 1 -> 0
        thread lock 1; end -> 1
        steps 1 0 0 0 -> 1 1 1 2
        interrupt 0 -> 1
        view 0 -> 1 -2 3 -1 0 0
        sync 0 0 -> 1
        sync 0 1 -> 0
        step 0 -> 3
        interrupt 0 -> 1
        view 0 -> 1 -2 4 -1 0 0
        tick 9 -> 0
        step 0 -> 2
        interrupt 0 -> 1
        view 0 -> 4 -2 -1 -1 0 0
        sync 1 1 -> 0
        sync 1 2 -> 1
        """);
    Script.run("the others in the row stay in order", """
        make 1 0 -> 0
        thread acquire 0 2; end -> 0
        thread acquire 0 1; end -> 1
        thread acquire 0 1; end -> 2
        thread release 0 1; release 0 1 -> 3
        steps 0 1 2 3 -> 2 2 2 1
        interrupt 0 -> 1
        sync 0 1 -> 2
        sync 0 0 -> 1
        look 1 0 -> 2
        step 3 -> 4
        sync 0 0 -> 0
        look 1 0 -> 1
        look 2 0 -> 1
        """);
    Script.run("a GATE's row goes on only by out and back", """
        make 7 0 -> 0
        thread in 0; out 0 -> 0
        thread own 0; end -> 1
        thread in 0; end -> 2
        steps 0 1 2 -> 1 2 2
        interrupt 1 -> 1
        view 1 -> 1 -2 1 -1 0 0
        look 2 0 -> 2
        sync 0 0 -> 1
        step 0 -> 4
        look 2 0 -> 1
        sync 0 0 -> 1
        """);
  }

  private static void readyOnes() {
    Script.run("only one that would wait is kept from it", """
        make 1 1 -> 0
        make 4 1 -> 1
        make 7 0 -> 2
        thread acquire 0 1; sleep 0; put 1; offer 1; in 2; own 2; poll 1; take 1 -> 0
        interrupt 0 -> 1
        steps 0 0 0 0 0 -> 1 1 1 1 1
        view 0 -> 1 0 5 -1 1 0
        step 0 -> 1
        view 0 -> 1 -2 6 -1 0 0
        sync 2 1 -> 0
        interrupt 0 -> 1
        step 0 -> 1
        look 0 1 -> 0
        step 0 -> 4
        view 0 -> 4 -2 -1 -1 0 0
        """);
    Script.run("sleep and in", """
        make 7 0 -> 0
        thread sleep 1; in 0; end -> 0
        thread own 0; end -> 1
        interrupt 0 -> 1
        steps 0 1 -> 1 1
        view 0 -> 1 -2 1 -1 0 0
        interrupt 0 -> 1
        step 0 -> 1
        view 0 -> 1 -2 2 -1 0 0
        sync 0 0 -> 0
        """);
    Script.run("put that would wait", """
        make 4 1 -> 0
        thread load 3; put 0; put 0; end -> 0
        steps 0 0 -> 1 1
        interrupt 0 -> 1
        step 0 -> 1
        view 0 -> 1 -2 3 -1 0 0
        sync 0 0 -> 1
        sync 0 1 -> 0
        """);
    Script.run("the last of a BARRIER need not wait", """
        make 3 2 -> 0
        thread meet 0; end -> 0
        thread meet 0; end -> 1
        interrupt 0 -> 1
        step 0 -> 1
        sync 0 0 -> 0
        interrupt 0 -> 1
        step 1 -> 2
        interrupt 1 -> 1
        sync 0 0 -> 0
        view 0 -> 1 -2 1 -1 1 0
        """);
    Script.run("wait keeps the LOCK then", """
        make 0 1 -> 0
        thread lock 0; wait 0; wait 0 -> 0
        step 0 -> 1
        interrupt 0 -> 1
        step 0 -> 1
        view 0 -> 1 -2 2 -1 0 0
        sync 0 2 -> 0
        sync 0 0 -> 1
        sync 0 3 -> 0
        step 0 -> 2
        """);
  }

  private static void lockIsNotKeptFrom() {
    Script.run("lock waits, interrupted or not", """
        make 0 1 -> 0
        make 2 1 -> 1
        thread lock 0; unlock 0 -> 0
        thread load 5; lock 0; await 1; await 1 -> 1
        steps 0 1 -> 1 1
        interrupt 1 -> 1
        step 1 -> 2
        view 1 -> 2 5 1 0 1 0
        step 0 -> 4
        view 1 -> 1 5 2 -1 1 0
        step 1 -> 1
        view 1 -> 1 -2 3 -1 0 0
        step 1 -> 2
        """);
  }

  private static void waitInTheSecondRow() {
    Script.run("free, not FAIR: it is READY in the first row", """
        make 0 0 -> 0
        thread lock 0; lock 0; wait 0; unlock 0; unlock 0 -> 0
        steps 0 0 0 -> 1 1 2
        interrupt 0 -> 1
        view 0 -> 1 0 2 -1 0 0
        sync 0 1 -> 1
        sync 0 3 -> 0
        sync 0 2 -> -1
        step 0 -> 1
        view 0 -> 1 -2 3 -1 0 0
        sync 0 0 -> 2
        steps 0 0 -> 1 4
        """);
    Script.run("free, FAIR: it has the LOCK", """
        make 0 1 -> 0
        thread lock 0; lock 0; wait 0 -> 0
        steps 0 0 0 -> 1 1 2
        interrupt 0 -> 1
        view 0 -> 4 -2 -1 -1 0 0
        sync 0 0 -> 2
        sync 0 2 -> 0
        """);
    Script.run("of another: it waits in the first row", """
        make 0 1 -> 0
        thread lock 0; wait 0; unlock 0 -> 0
        thread lock 0; signal 0; unlock 0 -> 1
        steps 0 0 1 -> 1 2 1
        interrupt 0 -> 1
        view 0 -> 2 0 1 0 0 0
        sync 0 1 -> 1
        sync 0 3 -> 0
        steps 1 1 -> 1 4
        view 0 -> 1 -2 2 -1 0 0
        """);
    Script.run("free, behind one that is READY in the row", """
        make 0 0 -> 0
        thread lock 0; wait 0; unlock 0 -> 0
        thread lock 0; wait 0; unlock 0 -> 1
        steps 0 0 1 1 -> 1 2 1 2
        interrupt 1 -> 1
        interrupt 0 -> 1
        look 1 0 -> 1
        view 0 -> 2 0 1 0 0 0
        sync 0 1 -> 2
        steps 1 1 -> 1 4
        look 0 0 -> 1
        steps 0 0 -> 1 4
        look 0 1 -> -2
        """);
  }

  private static void waitInTheFirstRow() {
    Script.run("signalled, then interrupted: it stays and goes on with -2", """
        make 0 1 -> 0
        thread lock 0; wait 0; unlock 0 -> 0
        thread lock 0; signal 0; unlock 0 -> 1
        thread lock 0; unlock 0 -> 2
        steps 0 0 1 1 2 -> 1 2 1 1 2
        interrupt 0 -> 1
        interrupt 0 -> 1
        view 0 -> 2 0 1 0 0 0
        sync 0 1 -> 2
        step 1 -> 4
        view 0 -> 1 -2 2 -1 0 0
        sync 0 2 -> 0
        """);
    Script.run("a next wait answers 1 again", """
        make 0 1 -> 0
        thread lock 0; wait 0; wait 0; unlock 0 -> 0
        thread lock 0; signal 0; unlock 0 -> 1
        steps 0 0 -> 1 2
        interrupt 0 -> 1
        view 0 -> 1 -2 2 -1 0 0
        steps 0 1 1 1 -> 2 1 1 4
        view 0 -> 1 1 3 -1 0 0
        """);
  }

  private static void readyInTheRow() {
    Script.run("READY in the row of a LOCK: the interrupt is for later", """
        make 0 0 -> 0
        make 2 1 -> 1
        thread lock 0; unlock 0 -> 0
        thread lock 0; await 1; end -> 1
        steps 0 1 0 -> 1 2 4
        look 1 0 -> 1
        interrupt 1 -> 1
        view 1 -> 1 0 0 -1 1 0
        sync 0 1 -> 1
        step 1 -> 1
        view 1 -> 1 0 1 -1 1 0
        sync 0 2 -> 1
        step 1 -> 1
        view 1 -> 1 -2 2 -1 0 0
        """);
  }
}
