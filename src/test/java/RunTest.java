import java.util.ArrayList;
import java.util.List;

/** Promise 8: run, which THREAD does each step. */
public final class RunTest {
  public static void main(String[] args) {
    ranges();
    stopsWhereNoneIsReady();
    seedWraps();
    drawnFromN();
    seedGoesOn();
    least();
    inTurn();
    Script.finish();
  }

  private static void ranges() {
    Script.run("run(how, s, n 0 .. 4000)", "n below 0 and above 4000", """
        thread jump 0 -> 0
        run 0 0 -1 -> IAE
        run 1 0 -1 -> IAE
        run 2 0 -1 -> IAE
        run 0 0 4001 -> IAE
        run 1 0 4001 -> IAE
        run 2 0 4001 -> IAE
        run 0 0 2147483647 -> IAE
        run 0 0 -2147483648 -> IAE
        count 4 -> 0
        run 0 0 0 -> 0
        run 1 0 0 -> 0
        run 2 0 0 -> 0
        run 0 0 4000 -> 4000
        run 1 0 4000 -> 4000
        run 2 0 4000 -> 4000
        count 4 -> 12000
        """);
    Script.run("As many as n steps, one by one, how as told; how many were done.", "how below 0 and above 2", """
        thread jump 0 -> 0
        run -1 0 1 -> IAE
        run 3 0 1 -> IAE
        run 2147483647 0 1 -> IAE
        run -2147483648 0 1 -> IAE
        run 3 0 0 -> IAE
        run -1 0 4001 -> IAE
        count 4 -> 0
        run 0 0 1 -> 1
        run 1 0 1 -> 1
        run 2 0 1 -> 1
        """);
    Script.run("As many as n steps, one by one, how as told; how many were done.", "any s", """
        thread jump 0 -> 0
        run 0 -2147483648 2 -> 2
        run 0 2147483647 2 -> 2
        run 1 -2147483648 2 -> 2
        run 2 2147483647 2 -> 2
        count 4 -> 8
        """);
  }

  private static void stopsWhereNoneIsReady() {
    for (int how = 0; how < 3; how++) {
      Script.run("n times, as long as one is READY, one does a step", "how " + how, """
          make 2 1 -> 0
          thread add 1; sleep 5; end -> 0
          thread add 1; await 0; end -> 1
          thread get 9 -> 2
          thread end -> 3
          """ + "run " + how + " 0 6 -> 6\nrun " + how + " 0 4000 -> 0\n" + """
          view 0 -> 3 1 1 -1 0 0
          view 1 -> 2 1 1 0 0 0
          view 2 -> 5 0 0 -1 0 2
          view 3 -> 4 0 -1 -1 0 0
          count 4 -> 6
          """);
      Script.run("n times, as long as one is READY, one does a step", "the last step, how " + how,
          "thread add 1; add 1; add 1 -> 0\nrun " + how + " 0 2 -> 2\nlook 0 0 -> 1\nrun " + how + " 0 2 -> 1\n");
    }
    Script.run("n times, as long as one is READY, one does a step", "READY in the row of a LOCK counts", """
        make 0 0 -> 0
        thread lock 0; unlock 0 -> 0
        thread lock 0 -> 1
        steps 0 1 0 -> 1 2 4
        run 1 0 9 -> 1
        look 1 0 -> 4
        """);
  }

  /** How often each of so many THREADS would be drawn, each with so many steps to do. */
  private static int[] drawn(int[] left, int seed, int n) {
    int[] done = new int[left.length];
    long s = seed;
    for (int i = 0; i < n; i++) {
      List<Integer> ready = new ArrayList<>();
      for (int t = 0; t < left.length; t++) {
        if (done[t] < left[t]) {
          ready.add(t);
        }
      }
      s = (s * 1103515245L + 12345L) & 0xffffffffL;
      done[ready.get((int) ((s >> 8) % ready.size()))]++;
    }
    return done;
  }

  private static void compareDrawn(String name, int[] left, int seed, int n) {
    TurnKeeper k = new TurnKeeper();
    for (int steps : left) {
      Script.thread(k, "add 1;".repeat(steps - 1) + "add 1");
    }
    int[] due = drawn(left, seed, n);
    Script.due(name + ": run", k.run(0, seed, n), n);
    for (int t = 0; t < left.length; t++) {
      Script.due(name + ": steps of " + t, k.look(t, 1), due[t]);
    }
  }

  private static void seedWraps() {
    String name = Doc.says("SEED s: the next is s * 1103515245 + 12345 (ints wrap)");
    for (int seed : new int[] {0, 1, -1, 2, 123456789, -987654321, Integer.MIN_VALUE, Integer.MAX_VALUE}) {
      compareDrawn(name + ", s " + seed, new int[] {30, 30, 30, 30, 30}, seed, 1);
      compareDrawn(name + ", s " + seed, new int[] {30, 30, 30, 30, 30}, seed, 25);
    }
  }

  private static void drawnFromN() {
    String name = Doc.says("DRAWN from n: the next >>> 8 mod n");
    for (int n = 1; n <= 8; n++) {
      int[] left = new int[n];
      java.util.Arrays.fill(left, 40);
      compareDrawn(name + ", n " + n, left, 77, 40);
      compareDrawn(name + ", n " + n, left, -77, 39);
    }
    name = Doc.says("how 0: one DRAWN of the READY ones, by number, by SEED s");
    for (int seed = -3; seed < 4; seed++) {
      compareDrawn(name + ", fewer and fewer, s " + seed, new int[] {1, 9, 4, 2, 30, 1, 1, 6}, seed, 54);
    }
    Script.run("how 0: one DRAWN of the READY ones, by number, by SEED s", "0, 1, 2 are not READY", """
        make 2 1 -> 0
        thread await 0 -> 0
        thread sleep 1 -> 1
        thread end -> 2
        thread add 1; jump 0 -> 3
        run 1 0 3 -> 3
        run 0 5 100 -> 100
        look 3 1 -> 50
        """);
  }

  private static void seedGoesOn() {
    String name = Doc.says("the next is the SEED then.");
    compareDrawn(name + ": draws from 1 count", new int[] {1, 5}, 1, 6);
    // the SEED 0 goes 12345, then others: a run of two steps is not twice a run of one
    int[] both = drawn(new int[] {9, 9, 9, 9, 9, 9, 9, 9}, 0, 2);
    int[] one = drawn(new int[] {9, 9, 9, 9, 9, 9, 9, 9}, 0, 1);
    TurnKeeper k = new TurnKeeper();
    for (int t = 0; t < 8; t++) {
      Script.thread(k, "add 1;".repeat(8) + "add 1");
    }
    k.run(0, 0, 2);
    for (int t = 0; t < 8; t++) {
      Script.due(name + ": in one call, " + t, k.look(t, 1), both[t]);
    }
    k.run(0, 0, 1);
    for (int t = 0; t < 8; t++) {
      Script.due(name + ": the next call has its own s, " + t, k.look(t, 1), both[t] + one[t]);
    }
  }

  private static void least() {
    Script.run("1: the least READY one", "it changes with each step", """
        make 6 0 -> 0
        thread join 0; add 1 -> 0
        thread load 5; give 0; add 1; add 1 -> 1
        thread add 1; add 1 -> 2
        run 1 9 1 -> 1
        look 0 0 -> 2
        run 1 9 2 -> 2
        look 1 1 -> 1
        look 0 2 -> 1
        run 1 9 1 -> 1
        look 0 0 -> 4
        run 1 9 3 -> 3
        look 1 0 -> 4
        look 2 1 -> 1
        run 1 9 9 -> 1
        """);
    Script.run("1: the least READY one", "7 alone", Script.lines(7, "thread end -> #") + """
        thread add 1; add 1; end -> 7
        steps 0 1 2 3 4 5 6 -> 4 4 4 4 4 4 4
        run 1 0 2 -> 2
        look 7 1 -> 2
        """);
  }

  private static void inTurn() {
    String sentence = "2: the next READY one behind the one that did the latest step of all (behind 7 comes 0; 0 "
        + "at first): how many.";
    String three = Script.lines(3, "thread add 1; add 1; add 1; add 1; add 1 -> #");
    Script.run(sentence, "0 at first", three + """
        run 2 0 1 -> 1
        look 0 1 -> 1
        run 2 0 1 -> 1
        look 1 1 -> 1
        run 2 0 3 -> 3
        look 0 1 -> 2
        look 1 1 -> 2
        look 2 1 -> 1
        """);
    Script.run(sentence, "the latest step by step and by run", three + """
        step 1 -> 1
        run 2 0 1 -> 1
        look 2 1 -> 1
        step 0 -> 1
        run 2 0 1 -> 1
        look 1 1 -> 2
        run 1 0 1 -> 1
        look 0 1 -> 2
        run 2 0 1 -> 1
        look 1 1 -> 3
        """);
    Script.run(sentence, "a step of one that is not READY is none", """
        thread add 1; add 1; add 1 -> 0
        thread end -> 1
        thread add 1; add 1; add 1 -> 2
        steps 1 0 -> 4 1
        steps 1 7 2 -> 4 0 1
        step 1 -> 4
        run 2 0 1 -> 1
        look 0 1 -> 2
        """);
    Script.run(sentence, "behind 7 comes 0, others are passed", """
        make 2 1 -> 0
        thread add 1; add 1; add 1; add 1 -> 0
        thread await 0 -> 1
        thread sleep 9 -> 2
        thread add 1; add 1; add 1; add 1 -> 3
        thread end -> 4
        thread end -> 5
        thread end -> 6
        thread add 1; add 1; add 1; add 1 -> 7
        run 2 0 8 -> 8
        look 7 1 -> 1
        run 2 0 1 -> 1
        look 0 1 -> 2
        run 2 0 1 -> 1
        look 3 1 -> 2
        run 2 0 1 -> 1
        look 7 1 -> 2
        run 2 0 99 -> 6
        """);
    Script.run(sentence, "one alone comes again", """
        thread jump 0 -> 0
        run 2 0 50 -> 50
        """);
    Script.run(sentence, "a step that FAILED or waits is one", """
        make 2 1 -> 0
        thread add 1; add 1 -> 0
        thread get 9 -> 1
        thread await 0 -> 2
        thread add 1; add 1 -> 3
        steps 0 1 -> 1 5
        run 2 0 1 -> 1
        look 2 0 -> 2
        run 2 0 1 -> 1
        look 3 1 -> 1
        """);
  }
}
