/** Promise 9: tick. */
public final class TickTest {
  public static void main(String[] args) {
    ranges();
    clock();
    wakes();
    Script.finish();
  }

  private static void ranges() {
    Script.run("tick(n 0 or more)", "-1, 0, the most", """
        thread sleep 1; end -> 0
        step 0 -> 3
        tick -1 -> IAE
        tick -2147483648 -> IAE
        count 3 -> 0
        look 0 0 -> 3
        tick 0 -> 0
        count 3 -> 0
        tick 2147483647 -> 1
        count 3 -> 2147483647
        """);
  }

  private static void clock() {
    Script.run("the CLOCK (long, 0 first) is n more", "beyond 2^31 and 2^32", """
        count 3 -> 0
        tick 2147483647 -> 0
        tick 1 -> 0
        count 3 -> 2147483648
        tick 2147483647 -> 0
        count 3 -> 4294967295
        tick 1 -> 0
        count 3 -> 4294967296
        tick -1 -> IAE
        count 3 -> 4294967296
        """);
    TurnKeeper k = new TurnKeeper();
    for (int i = 0; i < 500; i++) {
      k.tick(Integer.MAX_VALUE);
    }
    Script.due(Doc.says("n goes to the CLOCK") + ": 500 times the most", k.count(3), 500L * Integer.MAX_VALUE);
    Script.run("n goes to the CLOCK", "a step does not move it", """
        thread sleep 5; jump 0 -> 0
        tick 3 -> 0
        step 0 -> 3
        run 1 0 9 -> 0
        count 3 -> 3
        tick 5 -> 1
        count 3 -> 8
        """);
  }

  private static void wakes() {
    String sentence = "SLEEPING ones whose time has come (not after it) are READY behind their INSTRUCTION: how many.";
    Script.run(sentence, "one before, at the time", """
        thread load 4; sleep 5; add 1 -> 0
        steps 0 0 -> 1 3
        tick 4 -> 0
        view 0 -> 3 4 1 -1 0 0
        tick 0 -> 0
        tick 1 -> 1
        view 0 -> 1 4 2 -1 0 0
        tick 1 -> 0
        """);
    Script.run(sentence, "long behind the time", """
        thread sleep 1; end -> 0
        step 0 -> 3
        tick 2147483647 -> 1
        look 0 0 -> 1
        """);
    Script.run(sentence, "now is later than 2^32", """
        tick 2147483647 -> 0
        tick 2147483647 -> 0
        tick 2 -> 0
        thread sleep 1; end -> 0
        thread sleep 999999999; end -> 1
        steps 0 1 -> 3 3
        tick 0 -> 0
        tick 1 -> 1
        tick 999999997 -> 0
        tick 1 -> 1
        """);
    Script.run("how many SLEEPING THREADS are READY by that.", "none, some, all eight",
        Script.lines(8, "thread sleep #; sleep 1; end -> #") + """
        tick 9 -> 0
        run 2 0 9 -> 9
        tick 0 -> 0
        tick 1 -> 2
        tick 2 -> 2
        tick 9 -> 4
        tick 9 -> 0
        """);
    Script.run("how many SLEEPING THREADS are READY by that.", "all eight at once, and those that ENDED by it",
        Script.lines(8, "thread sleep 3 -> #") + """
        run 2 0 9 -> 8
        tick 2 -> 0
        tick 1 -> 8
        """ + Script.lines(8, "look # 0 -> 4"));
    Script.run("how many SLEEPING THREADS are READY by that.", "WAITING ones are not", """
        make 6 0 -> 0
        thread join 0; end -> 0
        thread sleep 1; end -> 1
        steps 0 1 -> 2 3
        interrupt 1 -> 1
        tick 1 -> 0
        look 0 0 -> 2
        """);
  }
}
