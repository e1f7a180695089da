/** Promise 9: tick and sleep. */
public final class TickTest {
  public static void main(String[] args) {
    Script.run("tick", """
        tick -1 -> IAE
        tick -2147483648 -> IAE
        tick 0 -> 0
        count 3 -> 0
        thread load 4; sleep 5; add 1 -> 0
        thread sleep 6 -> 1
        thread sleep 0; sleep -5; sleep 1; end -> 2
        steps 0 0 1 -> 1 3 3
        view 0 -> 3 4 1 -1 0 0
        tick 4 -> 0
        steps 0 2 2 -> 3 1 1
        look 2 2 -> 2
        step 2 -> 3
        tick 0 -> 0
        tick 1 -> 2
        view 0 -> 1 4 2 -1 0 0
        look 1 0 -> 3
        look 2 2 -> 3
        tick -1 -> IAE
        count 3 -> 5
        tick 1 -> 1
        look 1 0 -> 4
        view 1 -> 4 0 -1 -1 0 0
        tick 2147483647 -> 0
        count 3 -> 2147483653
        step 0 -> 4
        look 0 1 -> 5
        """);
    Script.run("the CLOCK is long", """
        thread sleep 999999999; sleep 1; end -> 0
        tick 2147483647 -> 0
        step 0 -> 3
        tick 999999998 -> 0
        tick 1 -> 1
        step 0 -> 3
        tick 2147483647 -> 1
        count 3 -> 5294967293
        count 4 -> 2
        """);
    Script.finish();
  }
}
