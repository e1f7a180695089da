/** Promises 1, 2, 3: a new object, feed and end. */
public final class TapeTest {
  public static void main(String[] args) {
    aNewObject();
    fiveHundredAndTwelveCalls();
    feedTakesTheHighestByteFirst();
    feedStopsAt1600();
    endKeepsTheFirst();
    readingLeavesItEmpty();
    Script.finish();
  }

  private static void aNewObject() {
    String sentence = Doc.says("No OBJECTS, no THREADS.");
    String due = "PLACE -1 0 0 0 0 " + "-1 ".repeat(24) + "0 0 -1 -1 0 0|".repeat(8) + "-1";
    Script.due(sentence, Script.picture(new TurnKeeper()), due);
    Script.run("No OBJECTS, no THREADS.", "each call where nothing is", """
        step 0 -> 0
        step 7 -> 0
        run 0 1 4000 -> 0
        run 1 1 4000 -> 0
        run 2 1 4000 -> 0
        tick 0 -> 0
        interrupt 0 -> 0
        interrupt 7 -> 0
        dead -> -1
        drop 0 -> NSE
        drop 23 -> NSE
        sync 0 0 -> NSE
        sync 23 4 -> NSE
        end 0 -> 0
        end 1 -> IAE
        thread -> UOE
        count 4 -> 0
        """);
  }

  private static void fiveHundredAndTwelveCalls() {
    String sentence = Doc.says("An object is used for at most 512 calls after it has been made");
    TurnKeeper k = new TurnKeeper();
    k.feed(0x61646420, 0x313b6a75, 0x6d702030, 0, 0); // "add 1;jump 0" and eight bytes more
    k.end(12);
    k.thread();
    for (int i = 0; i < 508; i++) {
      k.run(2, 0, 4000);
    }
    Script.due(sentence + ": the 512th", k.count(4), 508L * 4000);
    TurnKeeper made = new TurnKeeper();
    for (int i = 0; i < 255; i++) {
      made.make(4, 100);
      made.drop(0);
    }
    Script.due(sentence + ": the 511th", made.make(4, 100), 0);
    Script.due(sentence + ": the 512th behind makes and drops", made.sync(0, 4), 100L);
  }

  private static void feedTakesTheHighestByteFirst() {
    // "load 7; add 2; end  " is the 20 bytes
    Script.run("The 20 bytes of five ints, the highest of each first, come to THE TAPE", "a PROGRAM of 20 bytes", """
        feed 1819238756 540490528 1633969184 842735717 1852055584 -> 20
        count 0 -> 20
        thread -> 0
        steps 0 0 0 -> 1 1 4
        look 0 1 -> 9
        """);
    Script.run("The 20 bytes of five ints, the highest of each first, come to THE TAPE", "ints below 0", """
        feed -1 -2147483648 -256 255 0 -> 20
        thread -> UOE
        count 2 -> 0
        """);
    for (int odd = 3; odd < 20; odd++) {
      for (int b : new int[] {0, 127, 128, 255}) {
        int[] fours = {0x656e6420, 0x20202020, 0x20202020, 0x20202020, 0x20202020}; // "end" and blanks
        int shift = 24 - odd % 4 * 8;
        fours[odd / 4] = fours[odd / 4] & ~(255 << shift) | b << shift;
        TurnKeeper k = new TurnKeeper();
        k.feed(fours[0], fours[1], fours[2], fours[3], fours[4]);
        String name = Doc.says("the highest of each first") + ": byte " + odd + " is " + b;
        Script.due(name, Script.answer(k, "thread"), "UOE");
        Script.due(name + ", PLACE", k.count(2), (long) odd);
      }
    }
  }

  private static void feedStopsAt1600() {
    StringBuilder feeds = new StringBuilder();
    for (int length = 20; length <= 1600; length += 20) {
      feeds.append("feed 1 2 3 4 5 -> ").append(length).append('\n');
    }
    Script.run("THE TAPE has at most 1600 bytes", "80 feeds, the 81st is one too many", feeds + """
        count 0 -> 1600
        feed 1 2 3 4 5 -> IOB
        count 0 -> 1600
        end 1600 -> 1600
        end 1580 -> 1580
        feed 1 2 3 4 5 -> 1600
        """);
    Script.run("it would have more than 1600: IndexOutOfBoundsException.", "one byte too many, and none", feeds + """
        end 1581 -> 1581
        feed 1 2 3 4 5 -> IOB
        count 0 -> 1581
        end 1580 -> 1580
        feed 1 2 3 4 5 -> 1600
        end 1599 -> 1599
        feed -1 -1 -1 -1 -1 -> IOB
        """);
    Script.run("Answers its length.", "also one that is no multiple of 20", """
        feed 0 0 0 0 0 -> 20
        end 7 -> 7
        feed 0 0 0 0 0 -> 27
        count 0 -> 27
        """);
    String sentence = Doc.says("it would have more than 1600");
    TurnKeeper k = new TurnKeeper();
    Script.tape(k, "load 12345" + " ".repeat(1590));
    Script.due(sentence, Script.answer(k, "feed 1 2 3 4 5"), "IOB");
    Script.due(sentence + ": the bytes stay", k.thread(), 0);
    Script.due(sentence + ": step", k.step(0), 4);
    Script.due(sentence + ": A", k.look(0, 1), 12345);
  }

  private static void endKeepsTheFirst() {
    Script.run("THE TAPE keeps its first n bytes, n 0 .. its length.", "of an empty one", """
        end 0 -> 0
        end 1 -> IAE
        end -1 -> IAE
        end 2147483647 -> IAE
        end -2147483648 -> IAE
        count 0 -> 0
        """);
    Script.run("THE TAPE keeps its first n bytes, n 0 .. its length.", "its length and one more", """
        tape load 123 -> 8
        end 9 -> IAE
        end 8 -> 8
        end -1 -> IAE
        end 7 -> 7
        end 8 -> IAE
        tape 4 -> 8
        thread -> 0
        end 1 -> IAE
        step 0 -> 4
        look 0 1 -> 124
        tape end -> 3
        end 0 -> 0
        count 0 -> 0
        end 1 -> IAE
        """);
    Script.run("THE TAPE keeps its first n bytes, n 0 .. its length.", "what was behind them is no more", """
        tape load 123;end -> 12
        end 6 -> 6
        thread -> 0
        step 0 -> 4
        look 0 1 -> 1
        tape load -23;end -> 12
        end 6 -> 6
        thread -> UOE
        count 2 -> 6
        tape load 123;end -> 12
        end 5 -> 5
        thread -> UOE
        count 2 -> 5
        tape end;end;end -> 11
        end 2 -> 2
        thread -> UOE
        count 2 -> 0
        tape end;end;end -> 11
        end 3 -> 3
        thread -> 0
        end 0 -> 0
        thread -> UOE
        count 2 -> 0
        """);
    Script.run("Answers n.", "each length down to 0", "tape 12345 -> 5\n"
        + "end 5 -> 5\nend 4 -> 4\nend 3 -> 3\nend 2 -> 2\nend 1 -> 1\nend 0 -> 0\nend 0 -> 0\n");
  }

  private static void readingLeavesItEmpty() {
    String sentence = "a call that reads THE TAPE leaves it empty, also if it throws.";
    Script.run(sentence, "a whole PROGRAM", """
        tape end -> 3
        thread -> 0
        count 0 -> 0
        end 1 -> IAE
        thread -> UOE
        """);
    Script.run(sentence, "a broken PROGRAM", """
        tape end; x -> 6
        thread -> UOE
        count 0 -> 0
        tape end -> 3
        thread -> 0
        """);
    Script.run(sentence, "full", Script.lines(8, "thread end -> #") + """
        tape end -> 3
        thread -> ISE
        count 0 -> 0
        tape end; x -> 6
        thread -> UOE
        count 0 -> 0
        """);
    Script.run(sentence, "calls that do not read it leave it", """
        tape end -> 3
        make 8 0 -> IAE
        make 0 0 -> 0
        step 0 -> 0
        run 1 0 9 -> 0
        tick 1 -> 0
        interrupt 0 -> 0
        look 0 9 -> IAE
        dead -> -1
        sync 0 9 -> IAE
        drop 0 -> 0
        drop 0 -> NSE
        end 4 -> IAE
        count 0 -> 3
        thread -> 0
        """);
  }
}
