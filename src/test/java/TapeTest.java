/** Promises 1, 2, 3: a new object, feed and end; 14: count of what these leave. */
public final class TapeTest {
  public static void main(String[] args) {
    aNewObjectIsEmpty();
    feedTakesTheHighestByteFirst();
    feedStopsAt1600();
    aFeedThatThrowsLeavesTheBytes();
    endCuts();
    Script.finish();
  }

  private static void aNewObjectIsEmpty() {
    StringBuilder due = new StringBuilder("0 0 -1 0 0 ");
    for (int o = 0; o < 24; o++) {
      due.append("-1 ");
    }
    for (int t = 0; t < 8; t++) {
      due.append("0 0 -1 -1 0 0|");
    }
    Script.due("a new object", Script.picture(new TurnKeeper()), due.append("-1").toString());
    Script.run("new", """
        step 0 -> 0
        step 7 -> 0
        run 1 0 10 -> 0
        tick 0 -> 0
        interrupt 0 -> 0
        drop 0 -> NSE
        sync 0 0 -> NSE
        count 4 -> 0
        """);
  }

  private static void feedTakesTheHighestByteFirst() {
    // "load 7; add 2; end  " is the 20 bytes
    Script.run("feed order", """
        feed 1819238756 540490528 1633969184 842735717 1852055584 -> 20
        count 0 -> 20
        thread -> 0
        count 0 -> 0
        steps 0 0 0 -> 1 1 4
        look 0 1 -> 9
        """);
    Script.run("feed of negative ints", """
        feed -1 -2147483648 -256 255 0 -> 20
        thread -> UOE
        count 2 -> 0
        count 0 -> 0
        """);
  }

  private static void feedStopsAt1600() {
    TurnKeeper k = new TurnKeeper();
    for (int i = 1; i <= 79; i++) {
      Script.due("feed " + i, k.feed(0, 0, 0, 0, 0), i * 20);
    }
    Script.due("end", k.end(1579), 1579);
    Script.due("feed to 1599", k.feed(0, 0, 0, 0, 0), 1599);
    Script.due("feed over 1600", Script.answer(k, "feed 1 2 3 4 5"), "IOB");
    Script.due("length after that", k.count(0), 1599L);
    k.end(1581);
    Script.due("feed over by one", Script.answer(k, "feed 1 2 3 4 5"), "IOB");
    k.end(1580);
    Script.due("feed to 1600", k.feed(0, 0, 0, 0, 0), 1600);
    Script.due("feed behind 1600", Script.answer(k, "feed 1 2 3 4 5"), "IOB");
    Script.due("end at 1600", k.end(1600), 1600);
    Script.due("end behind", Script.answer(k, "end 1601"), "IAE");
  }

  private static void aFeedThatThrowsLeavesTheBytes() {
    TurnKeeper k = new TurnKeeper();
    Script.tape(k, "load 12345" + " ".repeat(1590));
    Script.due("feed to a full TAPE", Script.answer(k, "feed 1 2 3 4 5"), "IOB");
    Script.due("end that throws", Script.answer(k, "end 1601"), "IAE");
    Script.due("thread", k.thread(), 0);
    Script.due("step", k.step(0), 4);
    Script.due("A", k.look(0, 1), 12345);
  }

  private static void endCuts() {
    Script.run("end", """
        end 0 -> 0
        end 1 -> IAE
        end -1 -> IAE
        tape load 123 -> 8
        end 9 -> IAE
        end -2147483648 -> IAE
        end 2147483647 -> IAE
        count 0 -> 8
        end 8 -> 8
        end 7 -> 7
        end 8 -> IAE
        tape 4 -> 8
        thread -> 0
        end 1 -> IAE
        step 0 -> 4
        look 0 1 -> 124
        """);
  }
}
