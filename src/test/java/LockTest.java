/** Promise 7: the INSTRUCTIONS of a LOCK, FAIR or not. */
public final class LockTest {
  public static void main(String[] args) {
    countsItsOwn();
    notItsOwn();
    fairHandsOver();
    unfairIsOvertaken();
    waitKeepsTheCount();
    signalOneAndAll();
    staysOfTheEnded();
    Script.finish();
  }

  private static void countsItsOwn() {
    for (int fair = 0; fair < 2; fair++) {
      Script.run("lock, try, unlock, a " + fair, "make 0 " + fair + " -> 0\n" + """
          thread lock 0; try 0; lock 0; unlock 0; unlock 0; unlock 0; unlock 0 -> 0
          thread try 0; load 5; try 0; unlock 0 -> 1
          steps 0 0 0 -> 1 1 1
          look 0 1 -> 1
          sync 0 0 -> 3
          sync 0 2 -> 0
          step 1 -> 1
          look 1 1 -> 0
          sync 0 1 -> 0
          steps 0 0 -> 1 1
          sync 0 0 -> 1
          sync 0 2 -> 0
          step 0 -> 1
          sync 0 0 -> 0
          sync 0 2 -> -1
          steps 1 1 -> 1 1
          look 1 1 -> 1
          sync 0 2 -> 1
          step 0 -> 5
          look 0 5 -> 1
          step 1 -> 4
          look 1 1 -> 1
          """);
    }
  }

  private static void notItsOwn() {
    for (String word : new String[] {"unlock", "wait", "signal", "all"}) {
      Script.run(word + " of a LOCK that is not its own", "make 0 0 -> 0\n"
          + "thread " + word + " 0; end -> 0\nthread lock 0; end -> 1\nthread " + word + " 0 -> 2\n"
          + "step 0 -> 5\nview 0 -> 5 0 0 -1 0 1\n"
          + "step 1 -> 1\ninterrupt 2 -> 1\nstep 2 -> 5\nview 2 -> 5 0 0 -1 1 1\nsync 0 2 -> 1\n");
    }
  }

  private static void fairHandsOver() {
    Script.run("a FAIR LOCK goes to the first in the row", """
        make 0 1 -> 0
        thread lock 0; unlock 0; try 0; end -> 0
        thread load 3; lock 0; unlock 0 -> 1
        thread load 4; lock 0 -> 2
        steps 0 1 2 2 1 -> 1 1 1 2 2
        sync 0 1 -> 2
        step 0 -> 1
        sync 0 0 -> 1
        sync 0 1 -> 1
        sync 0 2 -> 2
        view 2 -> 4 4 -1 -1 0 0
        view 1 -> 2 3 1 0 0 0
        step 0 -> 1
        look 0 1 -> 0
        """);
  }

  private static void unfairIsOvertaken() {
    Script.run("a LOCK that is not FAIR goes to who comes", """
        make 0 0 -> 0
        thread lock 0; unlock 0; lock 0; unlock 0; end -> 0
        thread lock 0; unlock 0 -> 1
        thread lock 0; unlock 0 -> 2
        thread try 0; unlock 0 -> 3
        steps 0 1 2 0 -> 1 2 2 1
        view 1 -> 1 0 0 -1 0 0
        view 2 -> 2 0 0 0 0 0
        sync 0 1 -> 2
        step 3 -> 1
        look 3 1 -> 1
        steps 1 0 -> 2 2
        sync 0 1 -> 3
        step 3 -> 4
        view 1 -> 1 0 0 -1 0 0
        sync 0 2 -> -1
        step 1 -> 1
        sync 0 1 -> 2
        sync 0 0 -> 1
        sync 0 2 -> 1
        step 1 -> 4
        look 2 0 -> 1
        look 0 0 -> 2
        steps 2 2 -> 1 4
        look 0 0 -> 1
        count 4 -> 12
        """);
    Script.run("a second unlock finds the first one READY still", """
        make 0 0 -> 0
        thread lock 0; unlock 0; lock 0; unlock 0; end -> 0
        thread lock 0 -> 1
        steps 0 1 0 0 0 -> 1 2 1 1 1
        look 1 0 -> 1
        sync 0 1 -> 1
        step 1 -> 4
        sync 0 1 -> 0
        sync 0 2 -> 1
        """);
  }

  private static void waitKeepsTheCount() {
    Script.run("wait, FAIR", """
        make 0 1 -> 0
        thread load 8; lock 0; lock 0; lock 0; wait 0; unlock 0 -> 0
        thread lock 0; signal 0; load 2; unlock 0 -> 1
        thread lock 0; end -> 2
        steps 0 0 0 0 1 2 -> 1 1 1 1 2 2
        step 0 -> 2
        view 0 -> 2 8 4 0 0 0
        sync 0 2 -> 1
        sync 0 0 -> 1
        sync 0 1 -> 1
        sync 0 3 -> 1
        step 1 -> 1
        sync 0 1 -> 2
        sync 0 3 -> 0
        view 0 -> 2 8 4 0 0 0
        steps 1 1 -> 1 4
        sync 0 2 -> 2
        view 0 -> 2 8 4 0 0 0
        """);
    Script.run("wait has its COUNT again", """
        make 0 1 -> 0
        thread load 8; lock 0; lock 0; wait 0; unlock 0 -> 0
        thread lock 0; signal 0; unlock 0 -> 1
        steps 0 0 0 0 1 1 -> 1 1 1 2 1 1
        sync 0 0 -> 1
        step 1 -> 4
        sync 0 0 -> 2
        sync 0 2 -> 0
        view 0 -> 1 1 4 -1 0 0
        step 0 -> 4
        sync 0 0 -> 1
        """);
    Script.run("wait, not FAIR", """
        make 0 0 -> 0
        thread load 8; lock 0; lock 0; wait 0; unlock 0 -> 0
        thread lock 0; signal 0; unlock 0; lock 0; unlock 0 -> 1
        steps 0 0 0 0 1 1 -> 1 1 1 2 1 1
        step 1 -> 1
        sync 0 0 -> 0
        view 0 -> 1 8 3 -1 0 0
        steps 1 0 -> 1 2
        view 0 -> 2 8 3 0 0 0
        step 1 -> 4
        step 0 -> 1
        view 0 -> 1 1 4 -1 0 0
        sync 0 0 -> 2
        sync 0 1 -> 0
        """);
    Script.run("a lock behind a wait counts from 1 again", """
        make 0 1 -> 0
        thread lock 0; lock 0; wait 0; unlock 0; unlock 0; lock 0; end -> 0
        thread lock 0; signal 0; unlock 0; lock 0; unlock 0 -> 1
        steps 0 0 0 1 1 1 -> 1 1 2 1 1 1
        steps 1 0 0 0 -> 2 1 1 2
        step 1 -> 4
        sync 0 0 -> 1
        sync 0 2 -> 0
        look 0 1 -> 1
        """);
  }

  private static void signalOneAndAll() {
    String three = """
        make 0 1 -> 0
        thread lock 0; wait 0; unlock 0 -> 0
        thread lock 0; wait 0; unlock 0 -> 1
        thread lock 0; wait 0; unlock 0 -> 2
        """;
    Script.run("signal", three + """
        thread signal 0 -> 3
        thread lock 0; signal 0; signal 0; signal 0; signal 0; unlock 0 -> 4
        steps 2 2 0 0 1 1 3 4 -> 1 2 1 2 1 2 5 1
        step 4 -> 1
        sync 0 3 -> 2
        sync 0 1 -> 1
        steps 4 4 4 -> 1 1 1
        sync 0 3 -> 0
        sync 0 1 -> 3
        step 4 -> 4
        sync 0 2 -> 2
        step 2 -> 4
        sync 0 2 -> 0
        step 0 -> 4
        sync 0 2 -> 1
        """);
    Script.run("all", three + """
        thread lock 0; all 0; unlock 0 -> 3
        thread lock 0; unlock 0 -> 4
        steps 1 1 2 2 0 0 3 4 3 -> 1 2 1 2 1 2 1 2 1
        sync 0 3 -> 0
        sync 0 1 -> 4
        steps 3 4 1 2 -> 4 4 4 4
        look 0 1 -> 1
        step 0 -> 4
        sync 0 2 -> -1
        """);
    Script.run("signal and all where none waits", """
        make 0 0 -> 0
        thread load 6; lock 0; signal 0; all 0; unlock 0 -> 0
        run 1 0 9 -> 5
        look 0 1 -> 6
        """);
  }

  private static void staysOfTheEnded() {
    Script.run("a LOCK of one that ENDED", """
        make 0 0 -> 0
        thread lock 0 -> 0
        thread lock 0; unlock 0 -> 1
        steps 0 1 -> 4 2
        sync 0 2 -> 0
        thread unlock 0; unlock 0 -> 0
        step 0 -> 1
        sync 0 2 -> -1
        look 1 0 -> 1
        step 0 -> 5
        """);
    Script.run("a LOCK of one that FAILED", """
        make 0 1 -> 0
        thread lock 0; get 5 -> 0
        thread lock 0 -> 1
        steps 0 0 1 -> 1 5 2
        thread lock 0; unlock 0; unlock 0 -> 0
        steps 0 0 -> 1 1
        look 1 0 -> 2
        step 0 -> 4
        look 1 0 -> 4
        sync 0 2 -> 1
        """);
  }
}
