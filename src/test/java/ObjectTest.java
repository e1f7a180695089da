/** Promises 4, 5, 13: make, drop and sync. */
public final class ObjectTest {
  public static void main(String[] args) {
    makeRanges();
    makeFull();
    dropFreesTheNumber();
    dropWithARow();
    syncOfEachKind();
    Script.finish();
  }

  private static void makeRanges() {
    Script.run("make ranges", """
        make -1 0 -> IAE
        make 8 0 -> IAE
        make 2147483647 0 -> IAE
        make 0 -1 -> IAE
        make 0 2 -> IAE
        make 2 -1 -> IAE
        make 3 0 -> IAE
        make 3 9 -> IAE
        make 4 0 -> IAE
        make 4 101 -> IAE
        make 4 -2147483648 -> IAE
        count 1 -> 0
        make 0 0 -> 0
        make 0 1 -> 1
        make 1 -2147483648 -> 2
        make 1 2147483647 -> 3
        make 2 0 -> 4
        make 2 2147483647 -> 5
        make 3 1 -> 6
        make 3 8 -> 7
        make 4 1 -> 8
        make 4 100 -> 9
        make 5 -7 -> 10
        make 6 -5 -> 11
        make 7 99 -> 12
        count 1 -> 13
        count 10 -> 0
        count 12 -> 1
        count 14 -> 2
        count 16 -> 3
        count 18 -> 4
        count 20 -> 5
        count 21 -> 6
        count 22 -> 7
        count 23 -> -1
        """);
  }

  private static void makeFull() {
    TurnKeeper k = new TurnKeeper();
    for (int o = 0; o < 24; o++) {
      Script.due("make " + o, k.make(5, o), o);
    }
    Script.due("make a 25th", Script.answer(k, "make 5 0"), "ISE");
    Script.due("a wrong kind is told first", Script.answer(k, "make 9 0"), "IAE");
    Script.due("a wrong a is told first", Script.answer(k, "make 4 0"), "IAE");
    Script.due("objects", k.count(1), 24L);
    Script.due("drop", k.drop(17), 23);
    Script.due("make again", k.make(6, 0), 17);
    Script.due("kind of the last", k.count(33), 5L);
    Script.due("value of the last", k.sync(23, 0), 23L);
  }

  private static void dropFreesTheNumber() {
    Script.run("drop", """
        drop -1 -> NSE
        drop 24 -> NSE
        drop 0 -> NSE
        make 5 1 -> 0
        make 5 2 -> 1
        make 5 3 -> 2
        drop 1 -> 2
        drop 1 -> NSE
        drop 0 -> 1
        count 10 -> -1
        sync 0 0 -> NSE
        make 1 4 -> 0
        sync 0 0 -> 4
        make 1 5 -> 1
        make 1 6 -> 3
        """);
    Script.run("a dropped LOCK is forgotten with its owner", """
        make 0 0 -> 0
        thread lock 0; unlock 0 -> 0
        step 0 -> 1
        drop 0 -> 0
        make 0 0 -> 0
        sync 0 0 -> 0
        sync 0 2 -> -1
        step 0 -> 5
        look 0 5 -> 1
        """);
  }

  private static void dropWithARow() {
    Script.run("drop with a first row", """
        make 0 0 -> 0
        thread lock 0; unlock 0 -> 0
        thread lock 0; unlock 0 -> 1
        steps 0 1 -> 1 2
        drop 0 -> ISE
        step 0 -> 4
        look 1 0 -> 1
        drop 0 -> ISE
        step 1 -> 1
        sync 0 2 -> 1
        drop 0 -> 0
        """);
    Script.run("drop with a second row", """
        make 0 1 -> 0
        thread lock 0; wait 0 -> 0
        steps 0 0 -> 1 2
        sync 0 1 -> 0
        drop 0 -> ISE
        interrupt 0 -> 1
        look 0 0 -> 4
        drop 0 -> 0
        """);
    String[] waits = {"1 0|acquire 0 1", "2 1|await 0", "3 2|meet 0", "4 1|take 0", "6 0|join 0"};
    for (String wait : waits) {
      int bar = wait.indexOf('|');
      Script.run("drop of " + wait, "make " + wait.substring(0, bar) + " -> 0\n"
          + "thread " + wait.substring(bar + 1) + " -> 0\n"
          + "step 0 -> 2\nsync 0 1 -> 1\ndrop 0 -> ISE\ncount 1 -> 1\n"
          + "interrupt 0 -> 1\nlook 0 0 -> 4\nlook 0 1 -> -2\ndrop 0 -> 0\n");
    }
    Script.run("drop of a GATE", """
        make 7 0 -> 0
        thread in 0; out 0 -> 0
        thread own 0 -> 1
        steps 0 1 -> 1 2
        drop 0 -> ISE
        step 0 -> 4
        look 1 0 -> 4
        drop 0 -> 0
        """);
  }

  private static void syncOfEachKind() {
    Script.run("sync", """
        make 0 1 -> 0
        make 1 -3 -> 1
        make 2 4 -> 2
        make 3 5 -> 3
        make 4 6 -> 4
        make 5 -7 -> 5
        make 6 8 -> 6
        make 7 9 -> 7
        sync 0 0 -> 0
        sync 0 1 -> 0
        sync 0 2 -> -1
        sync 0 3 -> 0
        sync 0 4 -> UOE
        sync 1 0 -> -3
        sync 1 1 -> 0
        sync 1 2 -> UOE
        sync 1 3 -> UOE
        sync 1 4 -> UOE
        sync 2 0 -> 4
        sync 2 2 -> UOE
        sync 3 0 -> 0
        sync 3 1 -> 0
        sync 3 3 -> UOE
        sync 4 0 -> 0
        sync 4 1 -> 0
        sync 4 2 -> UOE
        sync 4 3 -> UOE
        sync 4 4 -> 6
        sync 5 0 -> -7
        sync 5 1 -> 0
        sync 5 4 -> UOE
        sync 6 0 -> 1099511627776
        sync 6 1 -> 0
        sync 6 2 -> UOE
        sync 7 0 -> 0
        sync 7 1 -> 0
        sync 7 2 -> -1
        sync 7 3 -> UOE
        sync 7 4 -> UOE
        sync 8 0 -> NSE
        sync -1 9 -> NSE
        sync 24 9 -> NSE
        sync 0 -1 -> IAE
        sync 0 5 -> IAE
        sync 1 5 -> IAE
        sync 1 2147483647 -> IAE
        """);
  }
}
