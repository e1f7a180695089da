/** Promise 7: the INSTRUCTIONS of a LOCK, FAIR or not. */
public final class LockTest {
  public static void main(String[] args) {
    countsItsOwn();
    waitsAtTheEnd();
    tries();
    notItsOwn();
    fairHandsOver();
    unfairIsOvertaken();
    whoComesToAFreeLock();
    waitKeepsTheCount();
    signals();
    alls();
    staysOfTheEnded();
    Script.finish();
  }

  private static void countsItsOwn() {
    for (int fair = 0; fair < 2; fair++) {
      String lock = "make 0 " + fair + " -> 0\n";
      Script.run("lock o: the LOCK is free, or its own: its COUNT is 1 more", "free, its own, a " + fair, lock + """
          thread load 4; lock 0; lock 0; end -> 0
          steps 0 0 -> 1 1
          sync 0 0 -> 1
          sync 0 2 -> 0
          step 0 -> 1
          sync 0 0 -> 2
          look 0 1 -> 4
          """);
      Script.run("lock o: the LOCK is free, or its own: its COUNT is 1 more", "very often, a " + fair, lock + """
          thread lock 0; jump 0 -> 0
          thread lock 0 -> 1
          run 1 0 4000 -> 4000
          run 1 0 4000 -> 4000
          sync 0 0 -> 4000
          step 1 -> 2
          """);
      Script.run("COUNT 1 less; 0: free", "from 2, from 1, a " + fair, lock + """
          thread lock 0; lock 0; unlock 0; unlock 0; unlock 0 -> 0
          steps 0 0 0 -> 1 1 1
          sync 0 0 -> 1
          sync 0 2 -> 0
          step 0 -> 1
          sync 0 0 -> 0
          sync 0 2 -> -1
          step 0 -> 5
          view 0 -> 5 0 4 -1 0 1
          """);
      Script.run("COUNT 1 less; 0: free", "one that waits gets nothing before 0, a " + fair, lock + """
          thread lock 0; lock 0; unlock 0; unlock 0 -> 0
          thread lock 0; end -> 1
          steps 0 0 1 0 -> 1 1 2 1
          look 1 0 -> 2
          sync 0 2 -> 0
          step 0 -> 4
          look 1 0 -> 1
          """);
    }
  }

  private static void waitsAtTheEnd() {
    String eight = Script.lines(8, "thread lock 0; unlock 0; end -> #");
    Script.run("else it waits at the end of its row.", "seven behind the owner", "make 0 1 -> 0\n" + eight + """
        steps 3 7 1 2 6 0 5 4 -> 1 2 2 2 2 2 2 2
        sync 0 1 -> 7
        view 7 -> 2 0 0 0 0 0
        step 3 -> 1
        sync 0 2 -> 7
        step 7 -> 1
        sync 0 2 -> 1
        step 1 -> 1
        sync 0 2 -> 2
        step 2 -> 1
        sync 0 2 -> 6
        step 6 -> 1
        sync 0 2 -> 0
        step 0 -> 1
        sync 0 2 -> 5
        step 5 -> 1
        sync 0 2 -> 4
        sync 0 1 -> 0
        step 4 -> 1
        sync 0 2 -> -1
        """);
    Script.run("Those that wait for one OBJECT go on in the order in which they came", "a LOCK that is not FAIR",
        "make 0 0 -> 0\n" + eight + """
        steps 3 7 1 0 3 -> 1 2 2 2 1
        look 7 0 -> 1
        look 1 0 -> 2
        steps 7 7 -> 1 1
        look 1 0 -> 1
        look 0 0 -> 2
        steps 1 1 -> 1 1
        look 0 0 -> 1
        """);
    Script.run("where they stood their INSTRUCTION is done.", "a LOCK's", "make 0 1 -> 0\n" + eight + """
        steps 0 1 0 -> 1 2 1
        view 1 -> 1 0 1 -1 0 0
        step 1 -> 1
        sync 0 2 -> -1
        """);
    Script.run("where they stood their INSTRUCTION is done.", "a LOCK's, behind a wait that is over", """
        make 0 1 -> 0
        thread lock 0; wait 0; unlock 0; load 5; lock 0; end -> 0
        thread lock 0; signal 0; unlock 0; lock 0; unlock 0 -> 1
        steps 0 0 1 1 1 0 0 1 0 -> 1 2 1 1 1 1 1 1 2
        step 1 -> 4
        view 0 -> 1 5 5 -1 0 0
        sync 0 0 -> 1
        """);
  }

  private static void tries() {
    for (int fair = 0; fair < 2; fair++) {
      Script.run("try o: as lock, A is 1, else 0.",
          "free, its own, another's, a " + fair, "make 0 " + fair + " -> 0\n" + """
          thread load 5; try 0; try 0; unlock 0; unlock 0; end -> 0
          thread load 5; try 0; try 0; unlock 0 -> 1
          steps 0 0 -> 1 1
          look 0 1 -> 1
          sync 0 0 -> 1
          step 0 -> 1
          look 0 1 -> 1
          sync 0 0 -> 2
          steps 1 1 -> 1 1
          look 1 1 -> 0
          sync 0 1 -> 0
          steps 0 0 -> 1 1
          step 1 -> 1
          look 1 1 -> 1
          sync 0 2 -> 1
          step 1 -> 4
          look 1 1 -> 1
          """);
    }
    Script.run("try o: as lock, A is 1, else 0.", "an interrupt does not matter", """
        make 0 0 -> 0
        thread lock 0; end -> 0
        thread try 0; end -> 1
        step 0 -> 1
        interrupt 1 -> 1
        step 1 -> 1
        view 1 -> 1 0 1 -1 1 0
        """);
  }

  private static void notItsOwn() {
    notItsOwn("unlock o: not its own: FAILED 1", "unlock 0");
    notItsOwn("wait o: not its own: FAILED 1", "wait 0");
    notItsOwn("signal o, all o: not its own: FAILED 1", "signal 0");
    notItsOwn("signal o, all o: not its own: FAILED 1", "all 0");
  }

  private static void notItsOwn(String sentence, String instruction) {
    Script.run(sentence, instruction + " of a free one, of another's", "make 0 0 -> 0\nthread " + instruction
        + "; end -> 0\nthread lock 0; end -> 1\nthread " + instruction + " -> 2\n" + """
        step 0 -> 5
        view 0 -> 5 0 0 -1 0 1
        step 1 -> 1
        interrupt 2 -> 1
        step 2 -> 5
        view 2 -> 5 0 0 -1 1 1
        sync 0 2 -> 1
        sync 0 0 -> 1
        """);
  }

  private static void fairHandsOver() {
    String sentence = "if one waits: FAIR: the first one has it (COUNT 1, or what it had before wait) and is READY";
    Script.run(sentence, "the first of two, COUNT 1", """
        make 0 1 -> 0
        thread lock 0; lock 0; unlock 0; unlock 0; try 0; end -> 0
        thread load 3; lock 0; unlock 0 -> 1
        thread load 4; lock 0; end -> 2
        steps 0 0 1 2 2 1 -> 1 1 1 1 2 2
        sync 0 1 -> 2
        steps 0 0 -> 1 1
        sync 0 0 -> 1
        sync 0 1 -> 1
        sync 0 2 -> 2
        view 2 -> 1 4 2 -1 0 0
        view 1 -> 2 3 1 0 0 0
        step 0 -> 1
        look 0 1 -> 0
        """);
    Script.run(sentence, "COUNT as before wait", """
        make 0 1 -> 0
        thread load 8; lock 0; lock 0; lock 0; wait 0; unlock 0 -> 0
        thread lock 0; lock 0; signal 0; unlock 0; unlock 0 -> 1
        steps 0 0 0 0 0 1 1 1 1 -> 1 1 1 1 2 1 1 1 1
        sync 0 0 -> 1
        step 1 -> 4
        sync 0 0 -> 3
        sync 0 2 -> 0
        view 0 -> 1 1 5 -1 0 0
        step 0 -> 4
        sync 0 0 -> 2
        """);
    Script.run(sentence, "none waits", """
        make 0 1 -> 0
        thread lock 0; unlock 0; end -> 0
        steps 0 0 -> 1 1
        sync 0 2 -> -1
        sync 0 0 -> 0
        """);
  }

  private static void unfairIsOvertaken() {
    Script.run("else the first one is READY (in its row still)", "the first of two", """
        make 0 0 -> 0
        thread lock 0; unlock 0; end -> 0
        thread lock 0; end -> 1
        thread lock 0; end -> 2
        steps 0 2 1 0 -> 1 2 2 1
        view 2 -> 1 0 0 -1 0 0
        view 1 -> 2 0 0 0 0 0
        sync 0 0 -> 0
        sync 0 1 -> 2
        sync 0 2 -> -1
        """);
    Script.run("and has it when it steps if it is free then", "free", """
        make 0 0 -> 0
        thread lock 0; unlock 0; end -> 0
        thread lock 0; end -> 1
        steps 0 1 0 1 -> 1 2 1 1
        view 1 -> 1 0 1 -1 0 0
        sync 0 0 -> 1
        sync 0 1 -> 0
        sync 0 2 -> 1
        count 4 -> 4
        """);
    Script.run("else it waits on in its place.", "overtaken by try and lock, before another in the row", """
        make 0 0 -> 0
        thread lock 0; unlock 0; lock 0; unlock 0; end -> 0
        thread lock 0; unlock 0 -> 1
        thread lock 0; unlock 0 -> 2
        thread try 0; unlock 0 -> 3
        steps 0 1 2 0 -> 1 2 2 1
        step 3 -> 1
        look 3 1 -> 1
        steps 1 0 -> 2 2
        view 1 -> 2 0 0 0 0 0
        sync 0 1 -> 3
        step 3 -> 4
        view 1 -> 1 0 0 -1 0 0
        sync 0 2 -> -1
        step 1 -> 1
        sync 0 1 -> 2
        sync 0 2 -> 1
        step 1 -> 4
        look 2 0 -> 1
        look 0 0 -> 2
        steps 2 2 -> 1 4
        look 0 0 -> 1
        count 4 -> 12
        """);
    Script.run("else it waits on in its place.", "the LOCK is free again before it steps", """
        make 0 0 -> 0
        thread lock 0; unlock 0; lock 0; unlock 0; end -> 0
        thread lock 0 -> 1
        steps 0 1 0 0 0 -> 1 2 1 1 1
        look 1 0 -> 1
        sync 0 1 -> 1
        step 1 -> 4
        sync 0 1 -> 0
        sync 0 2 -> 1
        """);
  }

  private static void whoComesToAFreeLock() {
    String sentence = "Who comes to the first row of a free LOCK where none waits is treated so at once.";
    Script.run(sentence, "FAIR: has it", """
        make 0 1 -> 0
        thread lock 0; lock 0; wait 0; end -> 0
        steps 0 0 0 -> 1 1 2
        sync 0 2 -> -1
        interrupt 0 -> 1
        view 0 -> 1 -2 3 -1 0 0
        sync 0 0 -> 2
        sync 0 2 -> 0
        sync 0 1 -> 0
        """);
    Script.run(sentence, "not FAIR: is READY in the row", """
        make 0 0 -> 0
        thread lock 0; lock 0; wait 0; end -> 0
        steps 0 0 0 -> 1 1 2
        interrupt 0 -> 1
        view 0 -> 1 0 2 -1 0 0
        sync 0 0 -> 0
        sync 0 1 -> 1
        sync 0 2 -> -1
        step 0 -> 1
        view 0 -> 1 -2 3 -1 0 0
        sync 0 0 -> 2
        """);
    Script.run(sentence, "not FAIR: behind one that is READY in the row it waits", """
        make 0 0 -> 0
        thread lock 0; wait 0; unlock 0 -> 0
        thread lock 0; wait 0; unlock 0 -> 1
        steps 0 0 1 1 -> 1 2 1 2
        interrupt 1 -> 1
        interrupt 0 -> 1
        look 1 0 -> 1
        view 0 -> 2 0 1 0 0 0
        sync 0 1 -> 2
        steps 1 1 -> 1 4
        look 0 0 -> 1
        steps 0 0 -> 1 4
        look 0 1 -> -2
        """);
    Script.run(sentence, "of another's it waits", """
        make 0 1 -> 0
        thread lock 0; wait 0; end -> 0
        thread lock 0; end -> 1
        steps 0 0 1 -> 1 2 1
        interrupt 0 -> 1
        view 0 -> 2 0 1 0 0 0
        sync 0 2 -> 1
        sync 0 1 -> 1
        """);
  }

  private static void waitKeepsTheCount() {
    String sentence = "its COUNT is kept, the LOCK freed as by unlock, it waits in the LOCK's second row.";
    Script.run(sentence, "none in the first row", """
        make 0 1 -> 0
        thread load 8; lock 0; lock 0; wait 0; end -> 0
        steps 0 0 0 0 -> 1 1 1 2
        view 0 -> 2 8 3 0 0 0
        sync 0 0 -> 0
        sync 0 1 -> 0
        sync 0 2 -> -1
        sync 0 3 -> 1
        """);
    Script.run(sentence, "FAIR: the first of the first row has it", """
        make 0 1 -> 0
        thread load 8; lock 0; lock 0; lock 0; wait 0; unlock 0 -> 0
        thread lock 0; signal 0; load 2; unlock 0 -> 1
        thread lock 0; end -> 2
        steps 0 0 0 0 1 2 0 -> 1 1 1 1 2 2 2
        view 0 -> 2 8 4 0 0 0
        sync 0 2 -> 1
        sync 0 0 -> 1
        sync 0 1 -> 1
        sync 0 3 -> 1
        step 1 -> 1
        sync 0 1 -> 2
        sync 0 3 -> 0
        steps 1 1 -> 1 4
        sync 0 2 -> 2
        view 0 -> 2 8 4 0 0 0
        """);
    Script.run(sentence, "not FAIR: the first of the first row is READY", """
        make 0 0 -> 0
        thread load 8; lock 0; lock 0; wait 0; unlock 0 -> 0
        thread lock 0; signal 0; unlock 0; lock 0; unlock 0 -> 1
        steps 0 0 0 1 0 -> 1 1 1 2 2
        view 1 -> 1 0 0 -1 0 0
        sync 0 2 -> -1
        steps 1 1 1 -> 1 1 1
        view 0 -> 1 8 3 -1 0 0
        sync 0 0 -> 0
        steps 1 0 -> 1 2
        view 0 -> 2 8 3 0 0 0
        step 1 -> 4
        step 0 -> 1
        view 0 -> 1 1 4 -1 0 0
        sync 0 0 -> 2
        sync 0 1 -> 0
        """);
    Script.run(sentence, "a lock behind it counts from 1 again", """
        make 0 1 -> 0
        thread lock 0; lock 0; wait 0; unlock 0; unlock 0; lock 0; end -> 0
        thread lock 0; signal 0; unlock 0; lock 0; unlock 0 -> 1
        steps 0 0 0 1 1 1 -> 1 1 2 1 1 1
        steps 1 0 0 0 -> 2 1 1 2
        step 1 -> 4
        sync 0 0 -> 1
        sync 0 2 -> 0
        look 0 1 -> 1
        """);
  }

  private static void signals() {
    String sentence = "the first, all of the second row come to the end of the first (with the COUNT kept";
    String seven = "make 0 1 -> 0\n" + Script.lines(7, "thread lock 0; wait 0; unlock 0 -> #");
    Script.run(sentence, "signal, and all, of an empty second row", """
        make 0 0 -> 0
        thread load 6; lock 0; signal 0; all 0; unlock 0 -> 0
        run 1 0 9 -> 5
        look 0 1 -> 6
        sync 0 1 -> 0
        """);
    Script.run(sentence, "signal of seven, one by one, and one time more", seven + """
        thread lock 0; signal 0; jump 1 -> 7
        steps 2 2 0 0 6 6 1 1 5 5 3 3 4 4 7 -> 1 2 1 2 1 2 1 2 1 2 1 2 1 2 1
        sync 0 3 -> 7
        step 7 -> 1
        sync 0 3 -> 6
        sync 0 1 -> 1
        run 2 0 1 -> 1
        run 2 0 11 -> 11
        sync 0 3 -> 0
        sync 0 1 -> 7
        run 2 0 2 -> 2
        sync 0 3 -> 0
        sync 0 1 -> 7
        """);
    Script.run(sentence, "behind one that waits in the first", """
        make 0 1 -> 0
        thread lock 0; wait 0; end -> 0
        thread lock 0; signal 0; unlock 0 -> 1
        thread lock 0; unlock 0 -> 2
        steps 0 0 1 2 1 1 -> 1 2 1 2 1 4
        sync 0 2 -> 2
        look 0 0 -> 2
        step 2 -> 4
        sync 0 2 -> 0
        """);
    Script.run("A is 1 when they have it)", "not before", """
        make 0 1 -> 0
        thread load 8; lock 0; wait 0; end -> 0
        thread lock 0; signal 0; unlock 0 -> 1
        steps 0 0 0 1 1 -> 1 1 2 1 1
        view 0 -> 2 8 2 0 0 0
        step 1 -> 4
        view 0 -> 1 1 3 -1 0 0
        """);
  }

  private static void alls() {
    String seven = "make 0 1 -> 0\n" + Script.lines(7, "thread lock 0; wait 0; unlock 0 -> #");
    Script.run("the first, all of the second row come to the end of the first", "all of seven, in order", seven + """
        thread lock 0; all 0; unlock 0 -> 7
        steps 2 2 0 0 6 6 1 1 5 5 3 3 4 4 7 7 -> 1 2 1 2 1 2 1 2 1 2 1 2 1 2 1 1
        sync 0 3 -> 0
        sync 0 1 -> 7
        step 7 -> 4
        sync 0 2 -> 2
        step 2 -> 4
        sync 0 2 -> 0
        step 0 -> 4
        sync 0 2 -> 6
        step 6 -> 4
        sync 0 2 -> 1
        step 1 -> 4
        sync 0 2 -> 5
        step 5 -> 4
        sync 0 2 -> 3
        step 3 -> 4
        sync 0 2 -> 4
        step 4 -> 4
        sync 0 2 -> -1
        """);
  }

  private static void staysOfTheEnded() {
    String sentence =
        "A LOCK, GATE of one that ENDED or FAILED stays its own, by its number (also of the next one with that).";
    Script.run(sentence, "a LOCK of one that ENDED", """
        make 0 0 -> 0
        thread lock 0 -> 0
        thread lock 0; unlock 0 -> 1
        steps 0 1 -> 4 2
        sync 0 2 -> 0
        thread unlock 0; unlock 0 -> 0
        sync 0 2 -> 0
        step 0 -> 1
        sync 0 2 -> -1
        look 1 0 -> 1
        step 0 -> 5
        """);
    Script.run(sentence, "a LOCK of one that FAILED", """
        make 0 1 -> 0
        thread lock 0; get 5 -> 0
        thread lock 0 -> 1
        steps 0 0 1 -> 1 5 2
        thread lock 0; unlock 0; unlock 0 -> 0
        steps 0 0 -> 1 1
        look 1 0 -> 2
        step 0 -> 4
        look 1 0 -> 4
        sync 0 2 -> 1
        """);
    Script.run(sentence, "a GATE of one that ENDED, and of one that FAILED", """
        make 7 0 -> 0
        make 7 0 -> 1
        thread own 0 -> 0
        thread own 1; get 5 -> 1
        steps 0 1 1 -> 4 1 5
        sync 0 2 -> 0
        sync 1 2 -> 1
        thread back 0; back 1 -> 0
        thread back 1 -> 1
        steps 0 0 1 -> 1 5 4
        sync 0 2 -> -1
        sync 1 2 -> -1
        """);
  }
}
