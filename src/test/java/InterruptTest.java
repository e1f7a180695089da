/** Promise 10: interrupt of WAITING, SLEEPING, READY and other THREADS. */
public final class InterruptTest {
  private static final String[] WAITS = {"1 0|acquire 0 1", "2 1|await 0", "3 2|meet 0", "4 1|take 0", "6 0|join 0"};

  public static void main(String[] args) {
    others();
    leavesItsRow();
    leavesAnothersRow();
    theRowBehindIt();
    readyOnes();
    readyOnesThatNeedNotWait();
    lockIsNotKeptFrom();
    waitInTheSecondRow();
    waitInTheFirstRow();
    readyInTheRow();
    Script.finish();
  }

  private static void others() {
    Script.run("THREAD t is interrupted, as told; 1, of others 0.", "none, ENDED, FAILED", """
        interrupt 0 -> 0
        view 0 -> 0 0 -1 -1 0 0
        thread end -> 0
        thread get 0 -> 1
        steps 0 1 -> 4 5
        interrupt 0 -> 0
        interrupt 1 -> 0
        interrupt 7 -> 0
        view 0 -> 4 0 -1 -1 0 0
        view 1 -> 5 0 0 -1 0 2
        thread end -> 0
        look 0 4 -> 0
        """);
    Script.run("of others 0.", "and READY, WAITING, SLEEPING ones 1", """
        make 6 0 -> 0
        thread add 1; join 0; sleep 1; end -> 0
        interrupt 0 -> 1
        interrupt 0 -> 1
        steps 0 0 0 -> 1 1 3
        interrupt 0 -> 1
        look 0 1 -> -2
        step 0 -> 4
        interrupt 0 -> 0
        """);
  }

  private static void leavesItsRow() {
    for (String wait : WAITS) {
      int bar = wait.indexOf('|');
      String word = wait.substring(bar + 1);
      Script.run("interrupt(t): WAITING, SLEEPING: it leaves its row, A is -2, and it is READY behind its INSTRUCTION",
          "at " + word,
          "make " + wait.substring(0, bar) + " -> 0\nthread " + word + "; end -> 0\n" + """
          step 0 -> 2
          interrupt 0 -> 1
          view 0 -> 1 -2 1 -1 0 0
          sync 0 1 -> 0
          step 0 -> 4
          """);
    }
    Script.run("WAITING, SLEEPING: it leaves its row, A is -2", "at put, what it would put is not put", """
        make 4 1 -> 0
        thread load 6; put 0; load 7; put 0; end -> 0
        thread take 0; take 0 -> 1
        steps 0 0 0 0 -> 1 1 1 2
        interrupt 0 -> 1
        view 0 -> 1 -2 4 -1 0 0
        sync 0 0 -> 1
        sync 0 1 -> 0
        step 1 -> 1
        look 1 1 -> 6
        sync 0 0 -> 0
        step 1 -> 2
        """);
    Script.run("WAITING, SLEEPING: it leaves its row, A is -2", "asleep", """
        thread sleep 3; end -> 0
        step 0 -> 3
        interrupt 0 -> 1
        view 0 -> 1 -2 1 -1 0 0
        tick 9 -> 0
        view 0 -> 1 -2 1 -1 0 0
        """);
    Script.run("WAITING, SLEEPING: it leaves its row, A is -2", "at lock, FAIR and not", """
        make 0 0 -> 0
        make 0 1 -> 1
        thread lock 0; lock 1; unlock 0; unlock 1 -> 0
        thread lock 0; end -> 1
        thread lock 1; end -> 2
        steps 0 0 1 2 -> 1 1 2 2
        interrupt 1 -> 1
        interrupt 2 -> 1
        view 1 -> 1 -2 1 -1 0 0
        view 2 -> 1 -2 1 -1 0 0
        sync 0 1 -> 0
        sync 1 1 -> 0
        steps 0 0 -> 1 4
        sync 0 2 -> -1
        sync 1 2 -> -1
        """);
    Script.run("WAITING, SLEEPING: it leaves its row, A is -2", "at lock, behind a wait that is over", """
        make 0 1 -> 0
        thread lock 0; wait 0; unlock 0; lock 0; end -> 0
        thread lock 0; signal 0; unlock 0; lock 0; end -> 1
        steps 0 0 1 1 1 0 1 0 -> 1 2 1 1 1 1 1 2
        interrupt 0 -> 1
        view 0 -> 1 -2 4 -1 0 0
        sync 0 1 -> 0
        sync 0 2 -> 1
        """);
  }

  private static void leavesAnothersRow() {
    Script.run("WAITING, SLEEPING: it leaves its row", "the first, one between and the last of a row", "make 0 1 -> 0\n"
        + Script.lines(7, "thread lock 0; unlock 0 -> #") + """
        steps 0 1 2 3 4 5 6 -> 1 2 2 2 2 2 2
        interrupt 1 -> 1
        interrupt 4 -> 1
        interrupt 6 -> 1
        sync 0 1 -> 3
        step 0 -> 4
        sync 0 2 -> 2
        step 2 -> 4
        sync 0 2 -> 3
        step 3 -> 4
        sync 0 2 -> 5
        step 5 -> 4
        sync 0 2 -> -1
        """);
    Script.run("WAITING, SLEEPING: it leaves its row", "one of a BARRIER is missing then", """
        make 3 3 -> 0
        thread meet 0; end -> 0
        thread meet 0; end -> 1
        thread meet 0; end -> 2
        steps 0 1 -> 2 2
        interrupt 0 -> 1
        sync 0 0 -> 1
        step 2 -> 2
        look 2 1 -> 1
        """);
  }

  private static void theRowBehindIt() {
    Script.run("it leaves its row, A is -2, and it is READY behind its INSTRUCTION", "a SEMAPHORE's row stays", """
        make 1 0 -> 0
        thread acquire 0 2; end -> 0
        thread acquire 0 1; end -> 1
        thread acquire 0 1; end -> 2
        thread release 0 1; release 0 1 -> 3
        steps 0 1 2 3 -> 2 2 2 1
        interrupt 0 -> 1
        sync 0 1 -> 2
        sync 0 0 -> 1
        look 1 0 -> 2
        step 3 -> 4
        sync 0 0 -> 0
        look 1 0 -> 1
        look 2 0 -> 1
        """);
    Script.run("it leaves its row, A is -2, and it is READY behind its INSTRUCTION", "a GATE's row stays", """
        make 7 0 -> 0
        thread in 0; out 0 -> 0
        thread own 0; end -> 1
        thread in 0; end -> 2
        steps 0 1 2 -> 1 2 2
        interrupt 1 -> 1
        view 1 -> 1 -2 1 -1 0 0
        look 2 0 -> 2
        sync 0 0 -> 1
        step 0 -> 4
        look 2 0 -> 1
        sync 0 0 -> 1
        """);
  }

  private static void readyOnes() {
    String sentence = "READY: its next INSTRUCTION that would wait (also sleep above 0; not lock) does not, A is "
        + "-2, and that is over: 1";
    for (String wait : WAITS) {
      int bar = wait.indexOf('|');
      String word = wait.substring(bar + 1);
      Script.run(sentence, word + ", two interrupts are one",
          "make " + wait.substring(0, bar) + " -> 0\nthread " + word + "; " + word + " -> 0\n" + """
          interrupt 0 -> 1
          interrupt 0 -> 1
          view 0 -> 1 0 0 -1 1 0
          step 0 -> 1
          view 0 -> 1 -2 1 -1 0 0
          sync 0 1 -> 0
          step 0 -> 2
          """);
    }
    Script.run(sentence, "sleep 1, not sleep 0 or -1", """
        thread sleep 0; sleep -1; sleep 1; sleep 1; end -> 0
        interrupt 0 -> 1
        steps 0 0 -> 1 1
        view 0 -> 1 0 2 -1 1 0
        step 0 -> 1
        view 0 -> 1 -2 3 -1 0 0
        step 0 -> 3
        """);
    Script.run(sentence, "put, in, own", """
        make 4 1 -> 0
        make 7 0 -> 1
        make 7 0 -> 2
        thread load 3; put 0; put 0; in 1; own 2; end -> 0
        thread own 1; in 2; end -> 1
        steps 0 0 1 1 -> 1 1 1 1
        interrupt 0 -> 1
        step 0 -> 1
        view 0 -> 1 -2 3 -1 0 0
        sync 0 0 -> 1
        sync 0 1 -> 0
        interrupt 0 -> 1
        step 0 -> 1
        view 0 -> 1 -2 4 -1 0 0
        sync 1 0 -> 0
        sync 1 1 -> 0
        interrupt 0 -> 1
        step 0 -> 1
        view 0 -> 1 -2 5 -1 0 0
        sync 2 2 -> -1
        sync 2 1 -> 0
        """);
    Script.run(sentence, "acquire and in, that would wait behind others alone", """
        make 1 1 -> 0
        make 7 0 -> 1
        thread acquire 0 2; end -> 0
        thread in 1; acquire 0 1; in 1; end -> 1
        thread own 1; end -> 2
        steps 0 1 2 -> 2 1 2
        interrupt 1 -> 1
        step 1 -> 1
        view 1 -> 1 -2 2 -1 0 0
        sync 0 0 -> 1
        interrupt 1 -> 1
        step 1 -> 1
        view 1 -> 1 -2 3 -1 0 0
        sync 1 0 -> 1
        """);
    Script.run(sentence, "wait, which keeps the LOCK then", """
        make 0 1 -> 0
        thread lock 0; wait 0; wait 0 -> 0
        step 0 -> 1
        interrupt 0 -> 1
        step 0 -> 1
        view 0 -> 1 -2 2 -1 0 0
        sync 0 2 -> 0
        sync 0 0 -> 1
        sync 0 3 -> 0
        step 0 -> 2
        """);
    Script.run(sentence, "the last INSTRUCTION", """
        make 6 0 -> 0
        thread join 0 -> 0
        interrupt 0 -> 1
        step 0 -> 4
        view 0 -> 4 -2 -1 -1 0 0
        """);
  }

  private static void readyOnesThatNeedNotWait() {
    String sentence = "its next INSTRUCTION that would wait (also sleep above 0; not lock) does not";
    Script.run(sentence, "others that need not wait are done", """
        make 1 1 -> 0
        make 4 1 -> 1
        make 7 0 -> 2
        make 6 0 -> 3
        make 2 0 -> 4
        make 3 1 -> 5
        thread acquire 0 1; put 1; take 1; in 2; give 3; join 3; await 4; meet 5; own 2; end -> 0
        interrupt 0 -> 1
        run 1 0 8 -> 8
        view 0 -> 1 0 8 -1 1 0
        sync 2 0 -> 1
        sync 3 0 -> 0
        step 0 -> 1
        view 0 -> 1 -2 9 -1 0 0
        """);
    Script.run(sentence, "one that ENDED or FAILED before has it still", """
        thread load 3; end -> 0
        thread load 4; get 0 -> 1
        interrupt 0 -> 1
        interrupt 1 -> 1
        steps 0 0 1 1 -> 1 4 1 5
        view 0 -> 4 3 -1 -1 1 0
        view 1 -> 5 4 1 -1 1 2
        """);
    Script.run(sentence, "the last of a BARRIER need not wait", """
        make 3 2 -> 0
        thread meet 0; end -> 0
        thread meet 0; end -> 1
        step 0 -> 2
        interrupt 1 -> 1
        step 1 -> 1
        view 1 -> 1 0 1 -1 1 0
        view 0 -> 1 1 1 -1 0 0
        """);
  }

  private static void lockIsNotKeptFrom() {
    Script.run("(also sleep above 0; not lock) does not, A is -2, and that is over: 1", "lock waits all the same", """
        make 0 1 -> 0
        make 2 1 -> 1
        thread lock 0; unlock 0 -> 0
        thread load 5; lock 0; await 1; await 1 -> 1
        steps 0 1 -> 1 1
        interrupt 1 -> 1
        step 1 -> 2
        view 1 -> 2 5 1 0 1 0
        step 0 -> 4
        view 1 -> 1 5 2 -1 1 0
        step 1 -> 1
        view 1 -> 1 -2 3 -1 0 0
        step 1 -> 2
        """);
  }

  private static void waitInTheSecondRow() {
    String sentence =
        "(of wait: it comes to the LOCK's first row as if signalled, or stays there, and goes on with -2)";
    Script.run(sentence, "free, not FAIR: it is READY in the first row", """
        make 0 0 -> 0
        thread lock 0; lock 0; wait 0; unlock 0; unlock 0 -> 0
        steps 0 0 0 -> 1 1 2
        interrupt 0 -> 1
        view 0 -> 1 0 2 -1 0 0
        sync 0 1 -> 1
        sync 0 3 -> 0
        sync 0 2 -> -1
        step 0 -> 1
        view 0 -> 1 -2 3 -1 0 0
        sync 0 0 -> 2
        steps 0 0 -> 1 4
        """);
    Script.run(sentence, "free, FAIR: it has the LOCK", """
        make 0 1 -> 0
        thread lock 0; lock 0; wait 0 -> 0
        steps 0 0 0 -> 1 1 2
        interrupt 0 -> 1
        view 0 -> 4 -2 -1 -1 0 0
        sync 0 0 -> 2
        sync 0 2 -> 0
        """);
    Script.run(sentence, "of another: it waits at the end of the first row", """
        make 0 1 -> 0
        thread lock 0; wait 0; unlock 0 -> 0
        thread lock 0; signal 0; unlock 0 -> 1
        thread lock 0; unlock 0 -> 2
        steps 0 0 1 2 -> 1 2 1 2
        interrupt 0 -> 1
        view 0 -> 2 0 1 0 0 0
        sync 0 1 -> 2
        sync 0 3 -> 0
        steps 1 1 -> 1 4
        sync 0 2 -> 2
        step 2 -> 4
        view 0 -> 1 -2 2 -1 0 0
        sync 0 2 -> 0
        """);
    Script.run(sentence, "one between others of the second row", """
        make 0 1 -> 0
        thread lock 0; wait 0; unlock 0 -> 0
        thread lock 0; wait 0; unlock 0 -> 1
        thread lock 0; wait 0; unlock 0 -> 2
        thread lock 0; signal 0; signal 0; unlock 0 -> 3
        steps 0 0 1 1 2 2 3 -> 1 2 1 2 1 2 1
        interrupt 1 -> 1
        sync 0 3 -> 2
        sync 0 1 -> 1
        steps 3 3 3 -> 1 1 4
        sync 0 2 -> 1
        look 1 1 -> -2
        step 1 -> 4
        sync 0 2 -> 0
        look 0 1 -> 1
        step 0 -> 4
        sync 0 2 -> 2
        look 2 1 -> 1
        """);
  }

  private static void waitInTheFirstRow() {
    String sentence = "or stays there, and goes on with -2)";
    Script.run(sentence, "signalled, then interrupted, twice", """
        make 0 1 -> 0
        thread lock 0; wait 0; unlock 0 -> 0
        thread lock 0; signal 0; unlock 0 -> 1
        thread lock 0; unlock 0 -> 2
        steps 0 0 1 1 2 -> 1 2 1 1 2
        interrupt 0 -> 1
        interrupt 0 -> 1
        view 0 -> 2 0 1 0 0 0
        sync 0 1 -> 2
        step 1 -> 4
        view 0 -> 1 -2 2 -1 0 0
        sync 0 2 -> 0
        """);
    Script.run(sentence, "a next wait answers 1 again", """
        make 0 1 -> 0
        thread lock 0; wait 0; wait 0; unlock 0 -> 0
        thread lock 0; signal 0; unlock 0 -> 1
        steps 0 0 -> 1 2
        interrupt 0 -> 1
        view 0 -> 1 -2 2 -1 0 0
        steps 0 1 1 1 -> 2 1 1 4
        view 0 -> 1 1 3 -1 0 0
        """);
  }

  private static void readyInTheRow() {
    Script.run("READY: its next INSTRUCTION that would wait", "one that is READY in the row of a LOCK", """
        make 0 0 -> 0
        make 2 1 -> 1
        thread lock 0; unlock 0 -> 0
        thread lock 0; await 1; end -> 1
        steps 0 1 0 -> 1 2 4
        look 1 0 -> 1
        interrupt 1 -> 1
        view 1 -> 1 0 0 -1 1 0
        sync 0 1 -> 1
        step 1 -> 1
        view 1 -> 1 0 1 -1 1 0
        sync 0 2 -> 1
        step 1 -> 1
        view 1 -> 1 -2 2 -1 0 0
        """);
  }
}
