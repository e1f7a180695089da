/** Promise 8: run, which THREAD does each step. */
public final class RunTest {
  public static void main(String[] args) {
    ranges();
    drawn();
    least();
    inTurn();
    Script.finish();
  }

  private static void ranges() {
    Script.run("run ranges", """
        thread jump 0 -> 0
        run -1 0 1 -> IAE
        run 3 0 1 -> IAE
        run 0 0 -1 -> IAE
        run 0 0 4001 -> IAE
        run 2147483647 0 2147483647 -> IAE
        count 4 -> 0
        run 0 -2147483648 0 -> 0
        run 1 0 0 -> 0
        run 2 0 0 -> 0
        run 0 0 4000 -> 4000
        run 1 2147483647 4000 -> 4000
        run 2 -1 1 -> 1
        count 4 -> 8001
        """);
    Script.run("run stops where none is READY", """
        make 2 1 -> 0
        thread add 1; sleep 5; end -> 0
        thread add 1; await 0; end -> 1
        thread get 9 -> 2
        run 2 0 100 -> 5
        run 0 0 100 -> 0
        view 0 -> 3 1 1 -1 0 0
        view 1 -> 2 1 1 0 0 0
        view 2 -> 5 0 0 -1 0 2
        """);
  }

  private static void drawn() {
    int[] seeds = {0, 1, -1, 123456789, Integer.MIN_VALUE, Integer.MAX_VALUE};
    for (int seed : seeds) {
      TurnKeeper k = new TurnKeeper();
      int[] left = {1, 9, 4, 2, 30};
      for (int t = 0; t < left.length; t++) {
        Script.thread(k, String.join(";", java.util.Collections.nCopies(left[t], "add 1")));
      }
      int[] due = new int[left.length];
      long s = seed;
      for (int done = 0; done < 20; done++) {
        java.util.ArrayList<Integer> ready = new java.util.ArrayList<>();
        for (int t = 0; t < left.length; t++) {
          if (due[t] < left[t]) {
            ready.add(t);
          }
        }
        s = (s * 1103515245L + 12345L) & 0xffffffffL;
        due[ready.get((int) ((s >> 8) % ready.size()))]++;
      }
      Script.due("run drawn by " + seed, k.run(0, seed, 20), 20);
      for (int t = 0; t < left.length; t++) {
        Script.due("steps of " + t + " drawn by " + seed, k.look(t, 1), due[t]);
      }
      Script.due("the rest by " + seed, k.run(0, seed, 4000), 26);
    }
  }

  private static void least() {
    Script.run("the least READY one", """
        make 6 0 -> 0
        thread join 0; add 1 -> 0
        thread load 5; give 0; add 1; add 1 -> 1
        thread add 1; add 1 -> 2
        run 1 9 1 -> 1
        look 0 0 -> 2
        run 1 9 2 -> 2
        look 1 1 -> 1
        look 0 2 -> 1
        run 1 9 1 -> 1
        look 0 0 -> 4
        run 1 9 3 -> 3
        look 1 0 -> 4
        look 2 1 -> 1
        run 1 9 9 -> 1
        """);
  }

  private static void inTurn() {
    Script.run("in turn, from 0 on", """
        thread add 1; add 1; add 1; add 1; add 1 -> 0
        thread add 1; add 1; add 1; add 1; add 1 -> 1
        thread add 1; add 1; add 1; add 1; add 1 -> 2
        run 2 0 1 -> 1
        look 0 1 -> 1
        run 2 0 1 -> 1
        look 1 1 -> 1
        run 2 0 3 -> 3
        look 0 1 -> 2
        look 1 1 -> 2
        look 2 1 -> 1
        step 0 -> 1
        run 2 0 1 -> 1
        look 1 1 -> 3
        run 1 0 1 -> 1
        look 0 1 -> 4
        run 2 0 1 -> 1
        look 1 1 -> 4
        step 7 -> 0
        run 2 0 1 -> 1
        look 2 1 -> 2
        """);
    Script.run("behind 7 comes 0, and those that are not READY are passed", """
        make 2 1 -> 0
        thread add 1; add 1; add 1; add 1 -> 0
        thread await 0 -> 1
        thread sleep 9 -> 2
        thread add 1; add 1; add 1; add 1 -> 3
        thread end -> 4
        thread end -> 5
        thread end -> 6
        thread add 1; add 1; add 1; add 1 -> 7
        run 2 0 8 -> 8
        look 7 1 -> 1
        run 2 0 1 -> 1
        look 0 1 -> 2
        run 2 0 1 -> 1
        look 3 1 -> 2
        run 2 0 1 -> 1
        look 7 1 -> 2
        run 2 0 99 -> 6
        """);
    Script.run("a thread alone comes again", """
        thread jump 0 -> 0
        run 2 0 50 -> 50
        """);
  }
}
