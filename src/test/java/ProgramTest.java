/** Promise 6: thread, which PROGRAMS are broken and where, and whose number it is. */
public final class ProgramTest {
  private static final String CANT_STAND = "PLACE: the first byte of what can't stand there, or is out of range";
  private static final String[] WHOLE = {"load -5", "add 999999999", "jump 59", "zero 0", "less 1", "sleep -1", "end",
      "time", "lock 0", "try 23", "unlock 1", "wait 1", "signal 1", "all 1", "get 1", "set 1", "inc 1 -999999999",
      "cas 1 -2 3", "acquire 1 1", "release 1 999999999", "drain 1", "down 1", "await 1", "meet 1", "put 1", "take 1",
      "offer 1", "poll 1", "give 1", "join 1", "in 1", "out 1", "own 1", "back 1"};

  public static void main(String[] args) {
    howManyInstructions();
    between();
    words();
    digits();
    objectNumbers();
    instructionNumbers();
    oneOrMore();
    blanks();
    whatCantStand();
    theLengthAtTheEnd();
    brokenChangesNothing();
    whichNumber();
    whereItStarts();
    Script.finish();
  }

  private static void whole(String sentence, String program) {
    String name = Doc.says(sentence) + ": [" + program + "]";
    TurnKeeper k = new TurnKeeper();
    Script.due(name, Script.answer(k, "thread " + program), "0");
    Script.due(name + ", PLACE", k.count(2), -1L);
    Script.due(name + ", STATE", k.look(0, 0), 1);
    Script.due(name + ", THE TAPE", k.count(0), 0L);
  }

  private static void broken(String sentence, String program, long place) {
    String name = Doc.says(sentence) + ": [" + program + "]";
    TurnKeeper k = new TurnKeeper();
    Script.due(name, Script.answer(k, "thread " + program), "UOE");
    Script.due(name + ", PLACE", k.count(2), place);
    Script.due(name + ", STATE", k.look(0, 0), 0);
    Script.due(name + ", THE TAPE", k.count(0), 0L);
  }

  private static String times(int n, String instruction) {
    return (instruction + ";").repeat(n - 1) + instruction;
  }

  private static void howManyInstructions() {
    String sentence = "THE TAPE is a PROGRAM: 1 to 60 INSTRUCTIONS";
    broken(sentence, "", 0);
    whole(sentence, "end");
    whole(sentence, times(59, "end"));
    whole(sentence, times(60, "end"));
    broken(sentence, times(61, "end"), 240);
    Script.run("THE TAPE is a PROGRAM: 1 to 60 INSTRUCTIONS", "each of 60 is done", "thread " + times(60, "add 1")
        + " -> 0\nrun 1 0 4000 -> 60\nview 0 -> 4 60 -1 -1 0 0\n");
    whole(sentence, times(60, "cas 23 -12345678 123456"));
    sentence = "broken (a 61st: its first byte): UnsupportedOperationException";
    broken(sentence, times(61, "end"), 240);
    broken(sentence, times(60, "end") + ";   end", 243);
    broken(sentence, times(60, "end") + ";  nosuch", 242);
    broken(sentence, times(60, "end") + ";7", 240);
    broken(sentence, times(62, "end"), 240);
    broken(sentence, times(400, "end"), 240);
    broken("the length at the end.", times(60, "end") + ";", 240);
    broken("the length at the end.", times(60, "end") + "; ", 241);
  }

  private static void between() {
    String sentence = "1 to 60 INSTRUCTIONS, ; between: a word and numbers";
    whole(sentence, "end;end");
    whole(sentence, String.join(";", WHOLE));
    broken(sentence, ";", 0);
    broken(sentence, ";end", 0);
    broken(sentence, "end;", 4);
    broken(sentence, "end;;end", 4);
    broken(sentence, "end ; ; end", 6);
    broken(sentence, "end end", 4);
    broken(sentence, "end,end", 3);
    broken(sentence, "load 1 load 2", 7);
    broken(sentence, "load 1:end", 6);
  }

  private static void words() {
    String sentence = "a word and numbers";
    for (String instruction : WHOLE) {
      whole(sentence, instruction);
      int blank = (instruction + " ").indexOf(' ');
      broken(sentence, "x" + instruction, 0);
      broken(sentence, instruction.substring(0, blank) + "x" + instruction.substring(blank), 0);
      broken(sentence, instruction + " 1", instruction.length() + 1);
      int last = instruction.lastIndexOf(' ');
      if (last > 0) {
        broken(sentence, instruction.substring(0, last), last);
      }
    }
    broken(sentence, "7", 0);
    broken(sentence, "-", 0);
    broken(sentence, "Lock 0", 0);
    broken(sentence, "lOCK 0", 0);
    broken(sentence, "end; END", 5);
    broken(sentence, "\u00e5nd", 0);
    broken(sentence, "loadload 1", 0);
  }

  private static void digits() {
    String sentence = "([-] 1 to 9 digits";
    broken(sentence, "load ", 5);
    broken(sentence, "load -", 6);
    whole(sentence, "load 0");
    whole(sentence, "load -9");
    whole(sentence, "load 999999999");
    whole(sentence, "load -999999999");
    whole(sentence, "load 000000000");
    whole(sentence, "load -000000000");
    broken(sentence, "load 1234567890", 14);
    broken(sentence, "load -1234567890", 15);
    broken(sentence, "load 0000000000", 14);
    broken(sentence, "load 99999999999999999999", 14);
    broken(sentence, "cas 1 1234567890 2", 15);
    broken(sentence, "cas 1 2 -1234567890", 18);
    broken(sentence, "load --5", 6);
    broken(sentence, "load +5", 5);
    broken(sentence, "load 5-", 6);
    broken(sentence, "load 5.0", 6);
    Script.run("([-] 1 to 9 digits", "what they are worth", """
        thread load 999999999; load -999999999; load 000000007; load -0; load -10 -> 0
        step 0 -> 1
        look 0 1 -> 999999999
        step 0 -> 1
        look 0 1 -> -999999999
        step 0 -> 1
        look 0 1 -> 7
        step 0 -> 1
        look 0 1 -> 0
        step 0 -> 4
        look 0 1 -> -10
        """);
  }

  private static void objectNumbers() {
    String sentence = "o 0 .. 23";
    for (String instruction : WHOLE) {
      if (instruction.matches("[a-z]+ -?[0-9].*") && !instruction.matches("(load|add|jump|zero|less|sleep) .*")) {
        String word = instruction.substring(0, instruction.indexOf(' ') + 1);
        int second = instruction.indexOf(' ', word.length());
        String more = second < 0 ? "" : instruction.substring(second);
        whole(sentence, word + "0" + more);
        whole(sentence, word + "23" + more);
        broken(sentence, word + "-1" + more, word.length());
        broken(sentence, word + "24" + more, word.length());
      }
    }
    whole(sentence, "lock 000000023");
    whole(sentence, "lock -0");
    broken(sentence, "lock 999999999", 5);
    broken(sentence, "lock   -999999999", 7);
    broken(sentence, "end; get 24; end", 9);
  }

  private static void instructionNumbers() {
    String sentence = "k 0 .. 59)";
    for (String word : new String[] {"jump ", "zero ", "less "}) {
      whole(sentence, word + "0");
      whole(sentence, word + "59");
      broken(sentence, word + "-1", 5);
      broken(sentence, word + "60", 5);
      broken(sentence, "end;" + word + " 999999999;end", 10);
    }
  }

  private static void oneOrMore() {
    String sentence = "acquire o n (1 or more)";
    whole(sentence, "acquire 1 1");
    whole(sentence, "acquire 1 999999999");
    broken(sentence, "acquire 1 0", 10);
    broken(sentence, "acquire 1 -1", 10);
    broken(sentence, "acquire 1 -999999999", 10);
    broken(sentence, "acquire 24 0", 8);
    sentence = "release o n (1 or more)";
    whole(sentence, "release 1 1");
    whole(sentence, "release 1 999999999");
    broken(sentence, "release 1 0", 10);
    broken(sentence, "release 1 -1", 10);
    broken(sentence, "release -1 0", 8);
  }

  private static void blanks() {
    String sentence = "blanks between";
    whole(sentence, "cas 7 1 2");
    whole(sentence, "cas   7    1     2");
    whole(sentence, "end;end");
    whole(sentence, "end ;end");
    whole(sentence, "end; end");
    whole(sentence, "  end  ;  end  ");
    broken(sentence, "load5", 4);
    broken(sentence, "load-5", 4);
    broken(sentence, "cas 1 2-3", 7);
    broken(sentence, "lo ad 5", 0);
    broken(sentence, "load - 5", 6);
    broken(sentence, "load 1 2", 7);
    broken(sentence, "end\t", 3);
    broken(sentence, "end;\nend", 4);
    whole(sentence, "end" + " ".repeat(1597));
    whole(sentence, " ".repeat(1597) + "end");
    whole(sentence, " ".repeat(1594) + "load 1");
    whole(sentence, "load" + " ".repeat(1595) + "1");
  }

  private static void whatCantStand() {
    broken(CANT_STAND, "foo", 0);
    broken(CANT_STAND, "  nosuch 4", 2);
    broken(CANT_STAND, "end; nosuch 4", 5);
    broken(CANT_STAND, "load x", 5);
    broken(CANT_STAND, "load 5x", 6);
    broken(CANT_STAND, "load -x", 6);
    broken(CANT_STAND, "load;end", 4);
    broken(CANT_STAND, "load ;end", 5);
    broken(CANT_STAND, "cas 1 2;", 7);
    broken(CANT_STAND, "end 1", 4);
    broken(CANT_STAND, "inc  24 1", 5);
    broken(CANT_STAND, "\0", 0);
    broken(CANT_STAND, "end\0", 3);
    broken(CANT_STAND, "end\u00ff", 3);
    broken(CANT_STAND, "load 1\u00b1", 6);
    broken(CANT_STAND, "lock 24; jump 60", 5);
    broken(CANT_STAND, "lock 0; jump 60", 13);
    broken(CANT_STAND, "end" + " ".repeat(1596) + "x", 1599);
  }

  private static void theLengthAtTheEnd() {
    String sentence = "the length at the end.";
    broken(sentence, "", 0);
    broken(sentence, "   ", 3);
    broken(sentence, "end;", 4);
    broken(sentence, "end;  ", 6);
    broken(sentence, "load", 4);
    broken(sentence, "load ", 5);
    broken(sentence, "load   ", 7);
    broken(sentence, "load -", 6);
    broken(sentence, "inc 1", 5);
    broken(sentence, "cas 1 2", 7);
    broken(sentence, "cas 1 2 ", 8);
    broken(sentence, " ".repeat(1600), 1600);
    broken(sentence, " ".repeat(1595) + "load ", 1600);
    broken(sentence, "end" + " ".repeat(1596) + ";", 1600);
  }

  private static void brokenChangesNothing() {
    Script.run("A call that throws changes nothing, but THE TAPE and PLACE.", "thread, broken and full", """
        make 2 1 -> 0
        thread load 1; await 0 -> 0
        thread load 2; sleep 5 -> 1
        thread load 3; get 9 -> 2
        thread load 4 -> 3
        run 2 0 7 -> 7
        interrupt 3 -> 0
        thread nosuch -> UOE
        count 2 -> 0
        thread load 9; lock 24 -> UOE
        count 2 -> 13
        view 2 -> 5 3 1 -1 0 2
        view 3 -> 4 4 -1 -1 0 0
        """ + """
        thread load 5; end -> 2
        thread load 5; end -> 3
        thread load 5; end -> 4
        thread load 5; end -> 5
        thread load 5; end -> 6
        thread load 5; end -> 7
        thread end -> ISE
        count 0 -> 0
        count 2 -> -1
        """);
  }

  private static void whichNumber() {
    String eight = Script.lines(8, "thread load #; unlock 0 -> #");
    Script.run("It is that of the least THREAD that is none, ENDED or FAILED (else full)",
        "none, the 8th, full", eight + """
        thread end -> ISE
        view 3 -> 1 0 0 -1 0 0
        interrupt 5 -> 1
        steps 5 5 -> 1 5
        view 5 -> 5 5 1 -1 1 2
        thread end -> 5
        thread end -> ISE
        steps 5 2 2 -> 4 1 5
        thread end -> 2
        thread end -> 5
        thread end -> ISE
        """);
    Script.run("It is that of the least THREAD that is none, ENDED or FAILED (else full)", "ENDED before none", """
        thread end -> 0
        thread end -> 1
        step 0 -> 4
        thread end -> 0
        thread end -> 2
        """);
    Script.run("It is that of the least THREAD that is none, ENDED or FAILED (else full)",
        "WAITING, SLEEPING are not", """
        make 2 1 -> 0
        thread await 0 -> 0
        thread sleep 1 -> 1
        steps 0 1 -> 2 3
        thread end -> 2
        tick 1 -> 1
        thread end -> 1
        """);
    Script.run("THREADS 0 .. 7", "all eight at once", Script.lines(8, "thread load # -> #")
        + "run 1 0 9 -> 8\n" + Script.lines(8, "look # 1 -> #"));
    Script.run("\"full\" is IllegalStateException.", "thread, where all eight are READY, and make", eight
        + Script.lines(24, "make 5 0 -> #") + "thread end -> ISE\nmake 5 0 -> ISE\n");
    Script.run("THE TAPE is a PROGRAM; the THREAD's number.", "broken is told before full", eight + """
        thread nosuch -> UOE
        count 2 -> 0
        thread end -> ISE
        count 2 -> -1
        thread -> UOE
        count 2 -> 0
        """);
  }

  private static void whereItStarts() {
    Script.run("READY at the first one, A 0, no interrupt.", "behind one that ENDED and one that FAILED", """
        thread load 7; end -> 0
        thread load 7; add 1; get 5 -> 1
        interrupt 0 -> 1
        interrupt 1 -> 1
        steps 0 0 1 1 1 -> 1 4 1 1 5
        view 0 -> 4 7 -1 -1 1 0
        view 1 -> 5 8 2 -1 1 2
        thread end; end -> 0
        thread end; end -> 1
        view 0 -> 1 0 0 -1 0 0
        view 1 -> 1 0 0 -1 0 0
        """);
    Script.run("READY at the first one, A 0, no interrupt.", "behind one with a longer PROGRAM", """
        thread load 1; inc 0 7; load 3 -> 0
        make 5 0 -> 0
        run 1 0 9 -> 3
        thread load 4 -> 0
        step 0 -> 4
        view 0 -> 4 4 -1 -1 0 0
        thread jump 1 -> 0
        step 0 -> 4
        view 0 -> 4 0 -1 -1 0 0
        sync 0 0 -> 7
        """);
    Script.run("READY at the first one, A 0, no interrupt.", "behind one that waited with a COUNT", """
        make 0 1 -> 0
        make 2 1 -> 1
        thread lock 0; lock 0; wait 0 -> 0
        steps 0 0 0 -> 1 1 2
        interrupt 0 -> 1
        thread unlock 0; unlock 0; await 1 -> 0
        view 0 -> 1 0 0 -1 0 0
        steps 0 0 0 -> 1 1 2
        """);
  }
}
