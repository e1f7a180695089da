/** Promise 14: count. */
public final class CountTest {
  public static void main(String[] args) {
    ranges();
    tapeAndObjects();
    places();
    steps();
    kinds();
    Script.finish();
  }

  private static void ranges() {
    Script.run("10 ..: KIND of OBJECT what - 10 (-1 for none), up to 33.", "numbers that are none", """
        count -1 -> IAE
        count 5 -> IAE
        count 6 -> IAE
        count 7 -> IAE
        count 8 -> IAE
        count 9 -> IAE
        count 34 -> IAE
        count 2147483647 -> IAE
        count -2147483648 -> IAE
        count 0 -> 0
        count 4 -> 0
        count 10 -> -1
        count 33 -> -1
        """);
  }

  private static void tapeAndObjects() {
    Script.run("what 0: bytes of THE TAPE", "0, 1, 1600", """
        count 0 -> 0
        tape x -> 1
        count 0 -> 1
        end 0 -> 0
        """ + "tape " + "x".repeat(1600) + " -> 1600\ncount 0 -> 1600\nthread -> UOE\ncount 0 -> 0\n");
    Script.run("1: OBJECTS", "0, 1, 24, 23", "count 1 -> 0\nmake 5 0 -> 0\ncount 1 -> 1\ndrop 0 -> 0\ncount 1 -> 0\n"
        + Script.lines(24, "make 5 # -> #") + """
        count 1 -> 24
        make 5 0 -> ISE
        count 1 -> 24
        drop 9 -> 23
        count 1 -> 23
        """);
    Script.run("3: the CLOCK", "0, and an n that is refused", """
        count 3 -> 0
        tick 7 -> 0
        tick -7 -> IAE
        count 3 -> 7
        """);
  }

  private static void places() {
    String sentence = "2: PLACE of the latest thread() that was broken, -1 if the latest was not, or before";
    Script.run(sentence, "before, broken, broken again, whole, empty", """
        count 2 -> -1
        tape end; x -> 6
        count 2 -> -1
        thread -> UOE
        count 2 -> 5
        tape end -> 3
        count 2 -> 5
        thread -> 0
        count 2 -> -1
        thread -> UOE
        count 2 -> 0
        thread end; end; -> UOE
        count 2 -> 9
        """);
    Script.run(sentence, "a full one was not broken", Script.lines(8, "thread end -> #") + """
        thread end end -> UOE
        count 2 -> 4
        thread end -> ISE
        count 2 -> -1
        """);
    Script.run(sentence, "other calls that throw leave it", """
        thread end end -> UOE
        end 1 -> IAE
        make 8 8 -> IAE
        drop 0 -> NSE
        step 8 -> IAE
        count 5 -> IAE
        count 2 -> 4
        """);
  }

  private static void steps() {
    Script.run("4: how many steps were done in all (of READY ones)", "none of others", """
        make 6 0 -> 0
        thread join 0; end -> 0
        thread sleep 1; end -> 1
        thread get 9 -> 2
        thread end -> 3
        count 4 -> 0
        steps 7 4 -> 0 0
        count 4 -> 0
        steps 0 1 2 3 -> 2 3 5 4
        count 4 -> 4
        steps 0 1 2 3 -> 2 3 5 4
        count 4 -> 4
        interrupt 0 -> 1
        tick 1 -> 1
        count 4 -> 4
        run 1 0 9 -> 2
        count 4 -> 6
        step 8 -> IAE
        run 1 0 4001 -> IAE
        count 4 -> 6
        """);
    Script.run("4: how many steps were done in all (of READY ones)", "one that waits on in its place did one", """
        make 0 0 -> 0
        thread lock 0; unlock 0; lock 0; end -> 0
        thread lock 0; end -> 1
        steps 0 1 0 0 1 -> 1 2 1 1 2
        count 4 -> 5
        """);
  }

  private static void kinds() {
    Script.run("10 ..: KIND of OBJECT what - 10 (-1 for none), up to 33.", "the first, the last and between",
        Script.lines(24, "make 5 # -> #") + """
        drop 0 -> 23
        drop 12 -> 22
        drop 23 -> 21
        make 7 0 -> 0
        make 0 0 -> 12
        make 4 1 -> 23
        count 10 -> 7
        count 11 -> 5
        count 22 -> 0
        count 32 -> 5
        count 33 -> 4
        drop 23 -> 23
        drop 0 -> 22
        count 33 -> -1
        count 10 -> -1
        """);
  }
}
