/** Promise 7: step, with the INSTRUCTIONS that need no waiting. */
public final class StepTest {
  public static void main(String[] args) {
    ranges();
    others();
    behindTheLast();
    plainInstructions();
    jumps();
    sleepsAndTime();
    cells();
    noSuchObject();
    Script.finish();
  }

  private static void ranges() {
    Script.run("t 0 .. 7 (so for interrupt, look).", "step", """
        thread add 1; end -> 0
        step -1 -> IAE
        step 8 -> IAE
        step -2147483648 -> IAE
        step 2147483647 -> IAE
        count 4 -> 0
        step 0 -> 1
        step 7 -> 0
        """);
    Script.run("t 0 .. 7 (so for interrupt, look).", "interrupt", """
        thread add 1; end -> 0
        interrupt -1 -> IAE
        interrupt 8 -> IAE
        interrupt -2147483648 -> IAE
        interrupt 2147483647 -> IAE
        look 0 4 -> 0
        interrupt 0 -> 1
        interrupt 7 -> 0
        """);
    Script.run("t 0 .. 7 (so for interrupt, look).", "look", """
        thread add 1; end -> 0
        look -1 0 -> IAE
        look 8 0 -> IAE
        look -2147483648 5 -> IAE
        look 2147483647 0 -> IAE
        look 0 0 -> 1
        look 7 0 -> 0
        """);
  }

  private static void others() {
    Script.run("others do nothing: STATE.", "none, WAITING, SLEEPING, ENDED, FAILED", """
        make 2 1 -> 0
        thread load 1; await 0; end -> 0
        thread load 2; sleep 1; end -> 1
        thread load 3; end; end -> 2
        thread load 4; get 0; end -> 3
        run 2 0 8 -> 8
        steps 0 1 2 3 4 7 -> 2 3 4 5 0 0
        steps 0 1 2 3 4 7 -> 2 3 4 5 0 0
        view 0 -> 2 1 1 0 0 0
        view 1 -> 3 2 1 -1 0 0
        view 2 -> 4 3 -1 -1 0 0
        view 3 -> 5 4 1 -1 0 2
        view 4 -> 0 0 -1 -1 0 0
        count 4 -> 8
        """);
    Script.run("STATES 0 none, 1 READY, 2 WAITING, 3 SLEEPING, 4 ENDED, 5 FAILED.", "each from step and look", """
        make 6 0 -> 0
        thread add 1; sleep 1; join 0; get 0 -> 0
        thread end -> 1
        look 2 0 -> 0
        look 0 0 -> 1
        step 0 -> 1
        step 0 -> 3
        look 0 0 -> 3
        tick 1 -> 1
        look 0 0 -> 1
        step 0 -> 2
        look 0 0 -> 2
        interrupt 0 -> 1
        step 0 -> 5
        look 0 0 -> 5
        step 1 -> 4
        look 1 0 -> 4
        """);
    Script.run("a READY THREAD does its INSTRUCTION, then stands at the next one", "one by one to the end", """
        thread add 1; add 1; add 1 -> 0
        look 0 2 -> 0
        step 0 -> 1
        view 0 -> 1 1 1 -1 0 0
        step 0 -> 1
        view 0 -> 1 2 2 -1 0 0
        step 0 -> 4
        view 0 -> 4 3 -1 -1 0 0
        """);
  }

  private static void behindTheLast() {
    String[] lastOnes = {"load 1", "add 1", "jump 1", "jump 59", "zero 1", "zero 59", "less 1", "sleep 0",
        "sleep -1", "end", "time"};
    for (String last : lastOnes) {
      Script.run("(behind the last one it is ENDED, however it came there)", last,
          "thread " + last + " -> 0\nstep 0 -> 4\nlook 0 2 -> -1\nlook 0 0 -> 4\nstep 0 -> 4\ncount 4 -> 1\n");
    }
    Script.run("(behind the last one it is ENDED, however it came there)", "it wakes", """
        thread sleep 1 -> 0
        step 0 -> 3
        tick 1 -> 1
        view 0 -> 4 0 -1 -1 0 0
        """);
    String[] goesOn = {"0 1|lock 0; unlock 0|lock 0", "0 1|lock 0; wait 0; unlock 0|lock 0",
        "1 0|release 0 1|acquire 0 1", "2 1|down 0|await 0", "3 2|meet 0|meet 0", "4 1|put 0|take 0",
        "6 0|give 0|join 0", "7 0|in 0; out 0|own 0", "7 0|own 0; back 0|in 0", "7 0|own 0; back 0|own 0"};
    for (String one : goesOn) {
      String[] parts = one.split("\\|");
      String before = parts[1].contains(";") ? "step 0 -> 1\n" : "";
      String then = parts[1].contains("wait") ? "step 0 -> 2\n" : "step 0 -> 4\n";
      Script.run("(behind the last one it is ENDED, however it came there)", "another lets it go on from " + parts[2],
          "make " + parts[0] + " -> 0\nthread " + parts[1] + " -> 0\nthread " + parts[2] + " -> 1\n"
          + before + "step 1 -> 2\n" + then + "look 1 0 -> 4\nlook 1 2 -> -1\nlook 1 3 -> -1\nsync 0 1 -> 0\n");
      Script.run("(behind the last one it is ENDED, however it came there)",
          "an interrupt lets it go on from " + parts[2],
          "make " + parts[0] + " -> 0\nthread " + parts[1] + " -> 0\nthread " + parts[2] + " -> 1\n"
          + before + "step 1 -> 2\ninterrupt 1 -> 1\nview 1 -> 4 -2 -1 -1 0 0\nsync 0 1 -> 0\n");
    }
    Script.run("(behind the last one it is ENDED, however it came there)",
        "it has a LOCK that is not FAIR by its step", """
        make 0 0 -> 0
        thread lock 0; unlock 0 -> 0
        thread lock 0 -> 1
        steps 0 1 0 -> 1 2 4
        look 1 0 -> 1
        step 1 -> 4
        look 1 2 -> -1
        """);
    Script.run("(behind the last one it is ENDED, however it came there)", "signalled, interrupted, put", """
        make 0 1 -> 0
        make 4 1 -> 1
        thread lock 0; wait 0 -> 0
        thread lock 0; signal 0; unlock 0; put 1; put 1 -> 1
        thread take 1 -> 2
        run 1 0 5 -> 5
        look 0 0 -> 4
        steps 1 1 2 -> 1 2 4
        look 1 0 -> 4
        thread sleep 5 -> 0
        interrupt 0 -> 1
        step 0 -> 4
        view 0 -> 4 -2 -1 -1 0 0
        """);
  }

  private static void plainInstructions() {
    Script.run("load n: A is n.", "the least and the most", """
        thread load -999999999; load 999999999; load 0 -> 0
        step 0 -> 1
        look 0 1 -> -999999999
        step 0 -> 1
        look 0 1 -> 999999999
        step 0 -> 4
        look 0 1 -> 0
        """);
    Script.run("add n: A is n more.", "it wraps at both ends", """
        make 5 2147483647 -> 0
        make 5 -2147483648 -> 1
        thread get 0; add 1; add -1; get 1; add -1; add 999999999 -> 0
        steps 0 0 -> 1 1
        look 0 1 -> -2147483648
        step 0 -> 1
        look 0 1 -> 2147483647
        steps 0 0 -> 1 1
        look 0 1 -> 2147483647
        step 0 -> 4
        look 0 1 -> -1147483650
        """);
    Script.run("end: ENDED.", "before others", """
        thread load 5; end; load 3 -> 0
        steps 0 0 0 -> 1 4 4
        view 0 -> 4 5 -1 -1 0 0
        """);
  }

  private static void jumps() {
    String sentence = "the next is INSTRUCTION k (0 .. 59; behind the last: ENDED), always, if A is 0, below 0.";
    String sixty = "add 1;".repeat(58);
    Script.run(sentence, "to 0, to itself, to the 60th", """
        thread jump 0; end -> 0
        thread end; jump 1 -> 1
        """ + "thread jump 59; " + sixty + "load 77 -> 2\n" + """
        steps 0 0 -> 1 1
        look 0 2 -> 0
        step 2 -> 1
        view 2 -> 1 0 59 -1 0 0
        step 2 -> 4
        look 2 1 -> 77
        """);
    Script.run(sentence, "to the last and behind it", """
        thread jump 1; end -> 0
        thread jump 2; end -> 1
        thread zero 3; end; end -> 2
        thread load -1; less 2 -> 3
        thread jump 59 -> 4
        steps 0 1 2 3 3 4 -> 1 4 4 1 4 4
        look 0 2 -> 1
        look 1 2 -> -1
        count 4 -> 6
        """);
    Script.run("jump k, zero k, less k", "A is -1, 0, 1", """
        thread load -1; zero 0; less 4; end; load 0; less 0; zero 8; end; load 1; zero 0; less 0; jump 0 -> 0
        steps 0 0 -> 1 1
        look 0 2 -> 2
        step 0 -> 1
        look 0 2 -> 4
        steps 0 0 -> 1 1
        look 0 2 -> 6
        step 0 -> 1
        look 0 2 -> 8
        steps 0 0 0 -> 1 1 1
        look 0 2 -> 11
        step 0 -> 1
        view 0 -> 1 1 0 -1 0 0
        """);
    Script.run("jump k, zero k, less k", "the least and the most A", """
        make 5 -2147483648 -> 0
        make 5 2147483647 -> 1
        thread get 0; zero 0; less 4; end; get 1; zero 0; less 0; end -> 0
        run 1 0 3 -> 3
        look 0 2 -> 4
        run 1 0 3 -> 3
        look 0 2 -> 7
        """);
  }

  private static void sleepsAndTime() {
    Script.run("sleep n: SLEEPING up to n after now (n below 1: nothing).", "-1, 0, 1", """
        thread load 3; sleep -999999999; sleep -1; sleep 0; sleep 1; end -> 0
        steps 0 0 0 0 -> 1 1 1 1
        view 0 -> 1 3 4 -1 0 0
        step 0 -> 3
        view 0 -> 3 3 4 -1 0 0
        tick 0 -> 0
        look 0 0 -> 3
        tick 1 -> 1
        view 0 -> 1 3 5 -1 0 0
        """);
    Script.run("sleep n: SLEEPING up to n after now (n below 1: nothing).", "the most, from a late now", """
        tick 2147483647 -> 0
        tick 2147483647 -> 0
        thread sleep 999999999; end -> 0
        step 0 -> 3
        tick 999999998 -> 0
        look 0 0 -> 3
        tick 1 -> 1
        look 0 0 -> 1
        """);
    Script.run("time: A is the CLOCK (its lowest 32 bits).", "0, 2^31 - 1, 2^31, 2^32 - 1, 2^32, 2^32 + 1", """
        thread time; jump 0 -> 0
        run 1 0 2 -> 2
        look 0 1 -> 0
        tick 2147483647 -> 0
        run 1 0 2 -> 2
        look 0 1 -> 2147483647
        tick 1 -> 0
        run 1 0 2 -> 2
        look 0 1 -> -2147483648
        tick 2147483647 -> 0
        run 1 0 2 -> 2
        look 0 1 -> -1
        tick 1 -> 0
        run 1 0 2 -> 2
        look 0 1 -> 0
        tick 1 -> 0
        count 3 -> 4294967297
        run 1 0 2 -> 2
        look 0 1 -> 1
        """);
  }

  private static void cells() {
    Script.run("of a CELL: A is its VALUE; it is A", "the least and the most", """
        make 5 -2147483648 -> 0
        make 5 0 -> 1
        thread get 0; set 1; add -1; set 1; end -> 0
        step 0 -> 1
        look 0 1 -> -2147483648
        step 0 -> 1
        sync 1 0 -> -2147483648
        look 0 1 -> -2147483648
        steps 0 0 -> 1 1
        sync 1 0 -> 2147483647
        sync 0 0 -> -2147483648
        """);
    Script.run("get o, set o, inc o n, cas o x y", "it wraps at both ends", """
        make 5 2147483647 -> 0
        thread inc 0 1; inc 0 -1; inc 0 0; inc 0 -999999999; end -> 0
        step 0 -> 1
        sync 0 0 -> -2147483648
        look 0 1 -> -2147483648
        step 0 -> 1
        sync 0 0 -> 2147483647
        look 0 1 -> 2147483647
        steps 0 0 -> 1 1
        sync 0 0 -> 1147483648
        look 0 1 -> 1147483648
        """);
    Script.run("n more, A is that; if it is x it is y and A 1, else A 0.", "is x, one less, one more, x is y", """
        make 5 41 -> 0
        thread cas 0 40 7; cas 0 42 7; cas 0 41 7; cas 0 41 8; cas 0 7 7; cas 0 7 -7; cas 0 7 9 -> 0
        step 0 -> 1
        look 0 1 -> 0
        step 0 -> 1
        look 0 1 -> 0
        sync 0 0 -> 41
        step 0 -> 1
        look 0 1 -> 1
        sync 0 0 -> 7
        step 0 -> 1
        look 0 1 -> 0
        step 0 -> 1
        look 0 1 -> 1
        sync 0 0 -> 7
        step 0 -> 1
        look 0 1 -> 1
        sync 0 0 -> -7
        step 0 -> 4
        look 0 1 -> 0
        sync 0 0 -> -7
        """);
  }

  private static void noSuchObject() {
    String[] words = {"lock 0", "try 0", "unlock 0", "wait 0", "signal 0", "all 0", "get 0", "set 0", "inc 0 1",
        "cas 0 1 2", "acquire 0 1", "release 0 1", "drain 0", "down 0", "await 0", "meet 0", "put 0", "take 0",
        "offer 0", "poll 0", "give 0", "join 0", "in 0", "out 0", "own 0", "back 0"};
    int[] kinds = {0, 0, 0, 0, 0, 0, 5, 5, 5, 5, 1, 1, 1, 2, 2, 3, 4, 4, 4, 4, 6, 6, 7, 7, 7, 7};
    for (int i = 0; i < words.length; i++) {
      for (int kind = -1; kind < 8; kind++) {
        if (kind != kinds[i]) {
          String made = kind < 0 ? "" : "make " + kind + " 1 -> 0\n";
          Script.run("OBJECTS that are not there, or of another KIND: FAILED 2.", words[i] + " at KIND " + kind,
              made + "thread add 3; " + words[i] + "; end -> 0\n"
              + "interrupt 0 -> 1\nsteps 0 0 0 -> 1 5 5\nview 0 -> 5 3 1 -1 1 2\ncount 4 -> 2\n");
        }
      }
    }
    Script.run("OBJECTS that are not there, or of another KIND: FAILED 2.", "made later, at both ends, and dropped", """
        thread get 0; get 23; get 23 -> 0
        """ + Script.lines(24, "make 5 # -> #") + """
        step 0 -> 1
        look 0 1 -> 0
        step 0 -> 1
        look 0 1 -> 23
        drop 23 -> 23
        step 0 -> 5
        view 0 -> 5 23 2 -1 0 2
        """);
  }
}
