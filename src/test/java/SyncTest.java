/** Promise 13: sync, which numbers an OBJECT of each KIND tells. */
public final class SyncTest {
  private static final String ONE_OF_EACH = """
      make 0 1 -> 0
      make 1 -3 -> 1
      make 2 4 -> 2
      make 3 5 -> 3
      make 4 6 -> 4
      make 5 -7 -> 5
      make 6 8 -> 6
      make 7 9 -> 7
      """;

  public static void main(String[] args) {
    ranges();
    ofOthers();
    locks();
    values();
    rowsOfAll();
    Script.finish();
  }

  private static void ranges() {
    Script.run("Of an OBJECT for THREADS, what 0 .. 4 as told.", "below 0 and above 4, of each KIND", ONE_OF_EACH
        + Script.lines(8, "sync # -1 -> IAE") + Script.lines(8, "sync # 5 -> IAE") + """
        sync 0 2147483647 -> IAE
        sync 1 2147483647 -> IAE
        sync 0 -2147483648 -> IAE
        sync 0 0 -> 0
        sync 4 4 -> 6
        """);
    Script.run("NoSuchElementException: an OBJECT is not there",
        "sync, also with a what out of range", ONE_OF_EACH + """
        sync -1 0 -> NSE
        sync 24 0 -> NSE
        sync 8 0 -> NSE
        sync 23 0 -> NSE
        sync 2147483647 0 -> NSE
        sync -2147483648 0 -> NSE
        sync -1 -1 -> NSE
        sync 24 5 -> NSE
        sync 8 5 -> NSE
        sync 8 4 -> NSE
        drop 4 -> 7
        sync 4 4 -> NSE
        """);
    Script.run("IllegalArgumentException: a number out of range; then as told.", "sync of a KIND that tells no 2", """
        make 5 0 -> 0
        sync 0 5 -> IAE
        sync 0 4 -> UOE
        sync 0 2 -> UOE
        sync 0 1 -> 0
        """);
  }

  private static void ofOthers() {
    Script.run("(2 .. 4 of others: UnsupportedOperationException)", "each KIND", ONE_OF_EACH + """
        sync 0 2 -> -1
        sync 0 3 -> 0
        sync 0 4 -> UOE
        sync 4 2 -> UOE
        sync 4 3 -> UOE
        sync 4 4 -> 6
        sync 7 2 -> -1
        sync 7 3 -> UOE
        sync 7 4 -> UOE
        """);
    for (int o : new int[] {1, 2, 3, 5, 6}) {
      Script.run("(2 .. 4 of others: UnsupportedOperationException)", "KIND " + o, ONE_OF_EACH
          + "sync " + o + " 2 -> UOE\nsync " + o + " 3 -> UOE\nsync " + o + " 4 -> UOE\nsync " + o + " 1 -> 0\n");
    }
    Script.run("1 how many are in its row (LOCK: the first)", "none, of each KIND",
        ONE_OF_EACH + Script.lines(8, "sync # 1 -> 0"));
    Script.run("4 QUEUE: CAPACITY", "the least and the most", """
        make 4 1 -> 0
        make 4 100 -> 1
        thread put 0; put 1 -> 0
        steps 0 0 -> 1 4
        sync 0 4 -> 1
        sync 1 4 -> 100
        """);
  }

  private static void locks() {
    Script.run("sync(o, what): 0 VALUE (LOCK: COUNT", "free, 1, 2, 1, free", """
        make 0 0 -> 0
        thread lock 0; lock 0; unlock 0; unlock 0 -> 0
        sync 0 0 -> 0
        step 0 -> 1
        sync 0 0 -> 1
        step 0 -> 1
        sync 0 0 -> 2
        step 0 -> 1
        sync 0 0 -> 1
        step 0 -> 4
        sync 0 0 -> 0
        """);
    Script.run("2 LOCK, GATE: whose it is (-1)", "none, THREAD 0, THREAD 7", """
        make 0 0 -> 0
        make 7 0 -> 1
        """ + Script.lines(7, "thread own 1; back 1 -> #") + """
        thread lock 0; unlock 0; own 1; back 1 -> 7
        sync 0 2 -> -1
        sync 1 2 -> -1
        steps 0 7 -> 1 1
        sync 0 2 -> 7
        sync 1 2 -> 0
        steps 0 7 7 -> 4 1 1
        sync 0 2 -> -1
        sync 1 2 -> 7
        step 7 -> 4
        sync 1 2 -> -1
        """);
    Script.run("3 LOCK: how many are in the second row", "none and eight", "make 0 1 -> 0\nsync 0 3 -> 0\n"
        + Script.lines(8, "thread lock 0; wait 0; unlock 0 -> #") + """
        run 1 0 16 -> 16
        sync 0 3 -> 8
        sync 0 1 -> 0
        sync 0 0 -> 0
        sync 0 2 -> -1
        interrupt 3 -> 1
        sync 0 3 -> 7
        sync 0 1 -> 0
        interrupt 5 -> 1
        sync 0 3 -> 6
        sync 0 1 -> 1
        """);
  }

  private static void values() {
    Script.run("GATE: READERS", "none, eight", "make 7 0 -> 0\nsync 0 0 -> 0\n"
        + Script.lines(8, "thread in 0 -> #") + "run 2 0 9 -> 8\nsync 0 0 -> 8\n");
    Script.run("SEMAPHORE: PERMITS", "below 0", "make 1 -1 -> 0\nsync 0 0 -> -1\n");
    Script.run("LATCH: what is left", "1 and 0", """
        make 2 1 -> 0
        thread down 0; down 0 -> 0
        sync 0 0 -> 1
        step 0 -> 1
        sync 0 0 -> 0
        step 0 -> 4
        sync 0 0 -> 0
        """);
    Script.run("BARRIER: how many wait", "none, seven, none", "make 3 8 -> 0\nsync 0 0 -> 0\n"
        + Script.lines(8, "thread meet 0 -> #") + "run 1 0 7 -> 7\nsync 0 0 -> 7\nrun 1 0 7 -> 1\nsync 0 0 -> 0\n");
    Script.run("QUEUE: size", "empty, full, and what waits is not in it", """
        make 4 1 -> 0
        thread put 0; put 0 -> 0
        sync 0 0 -> 0
        step 0 -> 1
        sync 0 0 -> 1
        step 0 -> 2
        sync 0 0 -> 1
        sync 0 1 -> 1
        """);
    Script.run("FUTURE: VALUE or NONE)", "without one, and with 0", """
        make 6 0 -> 0
        sync 0 0 -> 1099511627776
        thread give 0 -> 0
        step 0 -> 4
        sync 0 0 -> 0
        """);
    Script.run("NONE is 2^40 as an answer.", "no VALUE is it", """
        make 6 0 -> 0
        make 5 -2147483648 -> 1
        sync 0 0 -> 1099511627776
        thread get 1; give 0; join 0 -> 0
        steps 0 0 -> 1 1
        sync 0 0 -> -2147483648
        step 0 -> 4
        look 0 1 -> -2147483648
        """);
  }

  private static void rowsOfAll() {
    String[] waits = {"1 0|acquire 0 1", "2 1|await 0", "4 1|take 0", "6 0|join 0"};
    for (String wait : waits) {
      int bar = wait.indexOf('|');
      Script.run("1 how many are in its row (LOCK: the first)", "all eight at " + wait.substring(bar + 1),
          "make " + wait.substring(0, bar) + " -> 0\n" + Script.lines(8, "thread " + wait.substring(bar + 1) + " -> #")
          + "run 1 0 8 -> 8\nrun 1 0 8 -> 0\nsync 0 1 -> 8\ninterrupt 7 -> 1\ninterrupt 0 -> 1\nsync 0 1 -> 6\n");
    }
    String[] held = {"0 0|lock 0", "0 1|lock 0", "7 0|own 0"};
    for (String wait : held) {
      int bar = wait.indexOf('|');
      Script.run("1 how many are in its row (LOCK: the first)", "seven at " + wait.substring(bar + 1),
          "make " + wait.substring(0, bar) + " -> 0\n" + Script.lines(8, "thread " + wait.substring(bar + 1) + " -> #")
          + "run 1 0 9 -> 8\nsync 0 1 -> 7\nsync 0 2 -> 0\n");
    }
  }
}
