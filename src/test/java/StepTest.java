/** Promise 7: step, with the INSTRUCTIONS that need no waiting. */
public final class StepTest {
  public static void main(String[] args) {
    ranges();
    plainInstructions();
    jumps();
    cells();
    noSuchObject();
    Script.finish();
  }

  private static void ranges() {
    Script.run("step ranges", """
        step -1 -> IAE
        step 8 -> IAE
        step -2147483648 -> IAE
        step 0 -> 0
        thread add 1 -> 0
        step 8 -> IAE
        step 0 -> 4
        step 0 -> 4
        look 0 1 -> 1
        count 4 -> 1
        """);
  }

  private static void plainInstructions() {
    Script.run("load, add, end", """
        thread load 5; add -7; load -999999999; add -999999999; add -999999999; end; load 3 -> 0
        step 0 -> 1
        view 0 -> 1 5 1 -1 0 0
        step 0 -> 1
        look 0 1 -> -2
        steps 0 0 0 -> 1 1 1
        view 0 -> 1 1294967299 5 -1 0 0
        step 0 -> 4
        view 0 -> 4 1294967299 -1 -1 0 0
        """);
    Script.run("time", """
        thread time; time; time -> 0
        tick 2147483647 -> 0
        step 0 -> 1
        look 0 1 -> 2147483647
        tick 3 -> 0
        step 0 -> 1
        look 0 1 -> -2147483646
        tick 2147483647 -> 0
        count 3 -> 4294967297
        step 0 -> 4
        look 0 1 -> 1
        """);
  }

  private static void jumps() {
    Script.run("jump, zero, less", """
        thread zero 3; load 1; zero 9; load 1; zero 0; less 0; load -1; zero 0; less 10; end; jump 59; end -> 0
        step 0 -> 1
        look 0 2 -> 3
        steps 0 0 -> 1 1
        look 0 2 -> 5
        steps 0 0 0 -> 1 1 1
        look 0 2 -> 8
        step 0 -> 1
        look 0 2 -> 10
        step 0 -> 4
        view 0 -> 4 -1 -1 -1 0 0
        """);
    Script.run("a jump behind the last", """
        thread jump 1 -> 0
        thread jump 0 -> 1
        thread zero 2; end -> 2
        thread load -3; less 2 -> 3
        steps 0 1 1 2 -> 4 1 1 4
        look 1 2 -> 0
        steps 3 3 -> 1 4
        """);
  }

  private static void cells() {
    Script.run("get, set, inc, cas", """
        make 5 41 -> 0
        thread get 0; add 1; set 0; inc 0 -50; cas 0 -8 7; cas 0 -8 9; get 0 -> 0
        step 0 -> 1
        look 0 1 -> 41
        steps 0 0 -> 1 1
        sync 0 0 -> 42
        look 0 1 -> 42
        step 0 -> 1
        sync 0 0 -> -8
        look 0 1 -> -8
        step 0 -> 1
        sync 0 0 -> 7
        look 0 1 -> 1
        step 0 -> 1
        sync 0 0 -> 7
        look 0 1 -> 0
        step 0 -> 4
        look 0 1 -> 7
        """);
    Script.run("inc wraps", """
        make 5 2147483647 -> 0
        thread inc 0 2 -> 0
        step 0 -> 4
        sync 0 0 -> -2147483647
        look 0 1 -> -2147483647
        """);
  }

  private static void noSuchObject() {
    String[] words = {"lock 0", "try 0", "unlock 0", "wait 0", "signal 0", "all 0", "get 0", "set 0", "inc 0 1",
        "cas 0 1 2", "acquire 0 1", "release 0 1", "drain 0", "down 0", "await 0", "meet 0", "put 0", "take 0",
        "offer 0", "poll 0", "give 0", "join 0", "in 0", "out 0", "own 0", "back 0"};
    int[] kinds = {0, 0, 0, 0, 0, 0, 5, 5, 5, 5, 1, 1, 1, 2, 2, 3, 4, 4, 4, 4, 6, 6, 7, 7, 7, 7};
    for (int i = 0; i < words.length; i++) {
      for (int kind = -1; kind < 8; kind++) {
        if (kind != kinds[i]) {
          String made = kind < 0 ? "" : "make " + kind + " 1 -> 0\n";
          Script.run(words[i] + " at KIND " + kind, made + "thread add 3; " + words[i] + "; end -> 0\n"
              + "interrupt 0 -> 1\nsteps 0 0 0 -> 1 5 5\nview 0 -> 5 3 1 -1 1 2\ncount 4 -> 2\n");
        }
      }
    }
    Script.run("the OBJECT may come later", """
        thread get 1; get 1 -> 0
        make 0 0 -> 0
        make 5 6 -> 1
        step 0 -> 1
        look 0 1 -> 6
        drop 1 -> 1
        step 0 -> 5
        """);
  }
}
