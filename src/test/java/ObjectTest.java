/** Promises 4 and 5: make and drop. */
public final class ObjectTest {
  public static void main(String[] args) {
    kinds();
    numbersOfEachKind();
    makeFull();
    dropFreesTheNumber();
    dropWithARow();
    dropWithoutARow();
    Script.finish();
  }

  private static void kinds() {
    Script.run("A new OBJECT, kind 0 .. 7 with a as told", "below 0 and above 7", """
        make -1 1 -> IAE
        make 8 1 -> IAE
        make 2147483647 1 -> IAE
        make -2147483648 1 -> IAE
        count 1 -> 0
        make 0 1 -> 0
        make 7 1 -> 1
        """);
    Script.run("OBJECTS 0 .. 23, each of a KIND", "each KIND", Script.lines(8, "make # 1 -> #") + """
        count 10 -> 0
        count 11 -> 1
        count 12 -> 2
        count 13 -> 3
        count 14 -> 4
        count 15 -> 5
        count 16 -> 6
        count 17 -> 7
        count 18 -> -1
        count 1 -> 8
        """);
  }

  private static void numbersOfEachKind() {
    Script.run("LOCK (KIND 0, a 1 FAIR, 0 not)", "-1, 0, 1, 2", """
        make 0 -1 -> IAE
        make 0 2 -> IAE
        make 0 2147483647 -> IAE
        make 0 -2147483648 -> IAE
        count 1 -> 0
        make 0 0 -> 0
        make 0 1 -> 1
        thread lock 0; lock 1; unlock 0; unlock 1; end -> 0
        thread lock 0; end -> 1
        thread lock 1; end -> 2
        steps 0 0 1 2 0 0 -> 1 1 2 2 1 1
        sync 0 2 -> -1
        sync 1 2 -> 2
        """);
    Script.run("SEMAPHORE (1, a any PERMITS)", "the least and the most", """
        make 1 -2147483648 -> 0
        make 1 -1 -> 1
        make 1 0 -> 2
        make 1 2147483647 -> 3
        sync 0 0 -> -2147483648
        sync 1 0 -> -1
        sync 2 0 -> 0
        sync 3 0 -> 2147483647
        """);
    Script.run("LATCH (2, a 0 or more)", "-1, 0, the most", """
        make 2 -1 -> IAE
        make 2 -2147483648 -> IAE
        make 2 0 -> 0
        make 2 2147483647 -> 1
        sync 0 0 -> 0
        sync 1 0 -> 2147483647
        """);
    Script.run("BARRIER (3, a 1 .. 8)", "0, 1, 8, 9", """
        make 3 0 -> IAE
        make 3 9 -> IAE
        make 3 -1 -> IAE
        make 3 -2147483648 -> IAE
        make 3 2147483647 -> IAE
        make 3 1 -> 0
        make 3 8 -> 1
        """);
    Script.run("QUEUE (4, a 1 .. 100)", "0, 1, 100, 101", """
        make 4 0 -> IAE
        make 4 101 -> IAE
        make 4 -1 -> IAE
        make 4 -2147483648 -> IAE
        make 4 2147483647 -> IAE
        make 4 1 -> 0
        make 4 100 -> 1
        sync 0 4 -> 1
        sync 1 4 -> 100
        """);
    Script.run("CELL (5, a VALUE)", "the least and the most", """
        make 5 -2147483648 -> 0
        make 5 2147483647 -> 1
        make 5 0 -> 2
        sync 0 0 -> -2147483648
        sync 1 0 -> 2147483647
        sync 2 0 -> 0
        """);
    Script.run("FUTURE (6), GATE (7).", "any a", """
        make 6 -2147483648 -> 0
        make 6 2147483647 -> 1
        make 7 -2147483648 -> 2
        make 7 2147483647 -> 3
        count 1 -> 4
        """);
    Script.run("(what a KIND has not does not matter; else IllegalArgumentException)",
        "a that FUTURE, GATE have not", """
        make 6 -7 -> 0
        make 7 -7 -> 1
        sync 0 0 -> 1099511627776
        sync 1 0 -> 0
        sync 1 2 -> -1
        make 4 -7 -> IAE
        """);
  }

  private static void makeFull() {
    String full = Script.lines(24, "make 5 # -> #");
    Script.run("24 are there: full.", "the 24th and the 25th", full + """
        count 1 -> 24
        make 5 0 -> ISE
        make 0 0 -> ISE
        count 1 -> 24
        sync 23 0 -> 23
        drop 23 -> 23
        make 6 0 -> 23
        make 6 0 -> ISE
        """);
    Script.run("IllegalArgumentException: a number out of range; then as told.",
        "make of a wrong one where full", full + """
        make 8 0 -> IAE
        make -1 0 -> IAE
        make 4 0 -> IAE
        make 3 9 -> IAE
        make 2 -1 -> IAE
        make 0 2 -> IAE
        make 7 0 -> ISE
        """);
    Script.run("Answers the least free number.", "holes at both ends and between", full + """
        drop 17 -> 23
        drop 0 -> 22
        drop 23 -> 21
        drop 16 -> 20
        make 6 0 -> 0
        make 6 0 -> 16
        make 6 0 -> 17
        make 6 0 -> 23
        make 6 0 -> ISE
        """);
  }

  private static void dropFreesTheNumber() {
    Script.run("OBJECT o goes", "numbers where none is", """
        drop -1 -> NSE
        drop 24 -> NSE
        drop 2147483647 -> NSE
        drop -2147483648 -> NSE
        drop 0 -> NSE
        make 5 1 -> 0
        drop 1 -> NSE
        drop 0 -> 0
        drop 0 -> NSE
        """);
    Script.run("OBJECT o goes", "the others stay, and a new one is new", """
        make 5 1 -> 0
        make 0 0 -> 1
        make 5 3 -> 2
        thread lock 1; unlock 1 -> 0
        step 0 -> 1
        drop 1 -> 2
        count 11 -> -1
        sync 1 0 -> NSE
        sync 0 0 -> 1
        sync 2 0 -> 3
        make 0 0 -> 1
        sync 1 0 -> 0
        sync 1 2 -> -1
        step 0 -> 5
        look 0 5 -> 1
        """);
    StringBuilder drops = new StringBuilder();
    for (int o = 0; o < 24; o++) {
      drops.append("drop ").append(o).append(" -> ").append(23 - o).append('\n');
    }
    Script.run("Answers how many are left.", "from 24 down to 0", Script.lines(24, "make 5 # -> #") + drops);
  }

  private static void dropWithARow() {
    String[] waits = {"1 0|acquire 0 1", "2 1|await 0", "3 2|meet 0", "4 1|take 0", "6 0|join 0"};
    for (String wait : waits) {
      int bar = wait.indexOf('|');
      Script.run("a THREAD is in a row of it: IllegalStateException.", "at " + wait.substring(bar + 1),
          "make " + wait.substring(0, bar) + " -> 0\nthread " + wait.substring(bar + 1) + " -> 0\n" + """
          step 0 -> 2
          sync 0 1 -> 1
          drop 0 -> ISE
          count 1 -> 1
          interrupt 0 -> 1
          look 0 0 -> 4
          drop 0 -> 0
          """);
    }
    Script.run("a THREAD is in a row of it: IllegalStateException.", "at put, in, own", """
        make 4 1 -> 0
        make 7 0 -> 1
        make 7 0 -> 2
        thread put 0; own 1; in 2; put 0 -> 0
        thread own 2 -> 1
        thread in 1 -> 2
        thread own 2 -> 3
        steps 0 0 0 0 1 2 3 -> 1 1 1 2 2 2 2
        drop 0 -> ISE
        drop 1 -> ISE
        drop 2 -> ISE
        interrupt 0 -> 1
        interrupt 1 -> 1
        drop 2 -> ISE
        interrupt 2 -> 1
        interrupt 3 -> 1
        drop 0 -> 2
        drop 1 -> 1
        drop 2 -> 0
        """);
    Script.run("a THREAD is in a row of it: IllegalStateException.", "WAITING, then READY, in the first row", """
        make 0 0 -> 0
        thread lock 0; unlock 0 -> 0
        thread lock 0; unlock 0 -> 1
        steps 0 1 -> 1 2
        drop 0 -> ISE
        step 0 -> 4
        look 1 0 -> 1
        drop 0 -> ISE
        step 1 -> 1
        sync 0 2 -> 1
        drop 0 -> 0
        """);
    Script.run("a THREAD is in a row of it: IllegalStateException.", "in the second row", """
        make 0 1 -> 0
        thread lock 0; wait 0 -> 0
        steps 0 0 -> 1 2
        sync 0 1 -> 0
        drop 0 -> ISE
        interrupt 0 -> 1
        look 0 0 -> 4
        drop 0 -> 0
        """);
  }

  private static void dropWithoutARow() {
    Script.run("a THREAD is in a row of it: IllegalStateException.",
        "an owner, READERS, items, a VALUE are in no row", """
        make 0 0 -> 0
        make 7 0 -> 1
        make 7 0 -> 2
        make 4 2 -> 3
        make 6 0 -> 4
        thread lock 0; own 1; in 2; put 3; give 4; unlock 0 -> 0
        run 1 0 5 -> 5
        drop 0 -> 4
        drop 1 -> 3
        drop 2 -> 2
        drop 3 -> 1
        drop 4 -> 0
        step 0 -> 5
        look 0 5 -> 2
        """);
  }
}
