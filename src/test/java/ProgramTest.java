/** Promise 6: thread, which PROGRAMS are broken and where, and whose number it is; 14: PLACE. */
public final class ProgramTest {
  public static void main(String[] args) {
    wholePrograms();
    brokenWords();
    brokenNumbers();
    brokenBetween();
    howManyInstructions();
    whichNumber();
    Script.finish();
  }

  private static void whole(String program) {
    TurnKeeper k = new TurnKeeper();
    Script.due("[" + program + "]", Script.answer(k, "thread " + program), "0");
    Script.due("PLACE of [" + program + "]", k.count(2), -1L);
    Script.due("state of [" + program + "]", k.look(0, 0), 1);
    Script.due("length of THE TAPE after [" + program + "]", k.count(0), 0L);
  }

  private static void broken(String program, long place) {
    TurnKeeper k = new TurnKeeper();
    Script.due("[" + program + "]", Script.answer(k, "thread " + program), "UOE");
    Script.due("PLACE of [" + program + "]", k.count(2), place);
    Script.due("state of [" + program + "]", k.look(0, 0), 0);
    Script.due("length of THE TAPE after [" + program + "]", k.count(0), 0L);
  }

  private static void wholePrograms() {
    String[] words = {"load -5", "add 999999999", "jump 59", "zero 0", "less 1", "sleep -1", "end", "time",
        "lock 0", "try 23", "unlock 1", "wait 1", "signal 1", "all 1", "get 1", "set 1", "inc 1 -999999999",
        "cas 1 -2 3", "acquire 1 1", "release 1 999999999", "drain 1", "down 1", "await 1", "meet 1", "put 1",
        "take 1", "offer 1", "poll 1", "give 1", "join 1", "in 1", "out 1", "own 1", "back 1"};
    for (String word : words) {
      whole(word);
    }
    whole(String.join(";", words));
    whole(" end");
    whole("end ");
    whole("  end  ;  end  ");
    whole("end;end");
    whole("cas   7    1     2");
    whole("lock 000000007");
    whole("lock -0");
    whole("load -000000000");
  }

  private static void brokenWords() {
    broken("", 0);
    broken("   ", 3);
    broken("foo", 0);
    broken("loc 0", 0);
    broken("locks 0", 0);
    broken("Lock 0", 0);
    broken("  nosuch 4", 2);
    broken("end; nosuch 4", 5);
    broken("7", 0);
    broken("-", 0);
    broken("\0", 0);
    broken("end\0", 3);
    broken("end\u00ff", 3);
    broken("\u00e5nd", 0);
    broken("end\t", 3);
  }

  private static void brokenNumbers() {
    broken("load", 4);
    broken("load ", 5);
    broken("load   ", 7);
    broken("load;end", 4);
    broken("load ;end", 5);
    broken("load x", 5);
    broken("load -", 6);
    broken("load -x", 6);
    broken("load --5", 6);
    broken("load +5", 5);
    broken("load 5x", 6);
    broken("load 1234567890", 14);
    broken("load -1234567890", 15);
    broken("load5", 4);
    broken("load-5", 4);
    broken("cas 1 2", 7);
    broken("cas 1 2-3", 7);
    broken("cas 1 2 3 4", 10);
    broken("end 1", 4);
    broken("inc 1", 5);
    broken("inc  24 1", 5);
    broken("lock 24", 5);
    broken("lock -1", 5);
    broken("lock  999999999", 6);
    broken("jump 60", 5);
    broken("zero -1", 5);
    broken("end; less 60", 10);
    broken("acquire 1 0", 10);
    broken("release 1 -1", 10);
    broken("acquire 24 0", 8);
  }

  private static void brokenBetween() {
    broken(";", 0);
    broken(";end", 0);
    broken("end;", 4);
    broken("end;  ", 6);
    broken("end;;end", 4);
    broken("end ; ; end", 6);
    broken("end end", 4);
    broken("end,end", 3);
  }

  private static void howManyInstructions() {
    StringBuilder sixty = new StringBuilder("end");
    for (int i = 1; i < 60; i++) {
      sixty.append(";end");
    }
    whole(sixty.toString());
    broken(sixty + ";", 240);
    broken(sixty + "; ", 241);
    broken(sixty + "; end", 241);
    broken(sixty + ";end", 240);
    broken(sixty + ";  nosuch", 242);
    broken(sixty + " x", 240);
    Script.run("the 60th", "thread " + sixty.toString().replace("end", "add 1") + " -> 0\n"
        + "run 1 0 4000 -> 60\nview 0 -> 4 60 -1 -1 0 0\n");
    whole("end" + " ".repeat(1597));
    whole(" ".repeat(1597) + "end");
    whole(" ".repeat(1594) + "load 1");
    broken(" ".repeat(1595) + "load ", 1600);
    broken("end" + " ".repeat(1596) + "x", 1599);
  }

  private static void whichNumber() {
    StringBuilder eight = new StringBuilder();
    for (int t = 0; t < 8; t++) {
      eight.append("thread load ").append(t).append("; unlock 0 -> ").append(t).append('\n');
    }
    Script.run("full", eight + """
        thread end -> ISE
        count 0 -> 0
        count 2 -> -1
        thread nosuch -> UOE
        count 2 -> 0
        thread end -> ISE
        count 2 -> -1
        view 3 -> 1 0 0 -1 0 0
        interrupt 5 -> 1
        steps 5 5 -> 1 5
        view 5 -> 5 5 1 -1 1 2
        thread nosuch -> UOE
        view 5 -> 5 5 1 -1 1 2
        thread end -> 5
        count 2 -> -1
        view 5 -> 1 0 0 -1 0 0
        thread end -> ISE
        steps 5 2 2 -> 4 1 5
        thread end -> 2
        thread end -> 5
        thread end -> ISE
        """);
    Script.run("WAITING and SLEEPING ones keep their numbers", """
        make 2 1 -> 0
        thread await 0 -> 0
        thread sleep 1 -> 1
        steps 0 1 -> 2 3
        thread end -> 2
        tick 1 -> 1
        thread end -> 1
        """);
  }
}
