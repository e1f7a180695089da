/** Promise 7: the INSTRUCTIONS of a QUEUE. */
public final class QueueTest {
  public static void main(String[] args) {
    puts();
    takes();
    offersAndPolls();
    rows();
    goesRound();
    Script.finish();
  }

  private static void puts() {
    String sentence = "put o: A comes to the end of the QUEUE, if it has room (with one that waits to take: to "
        + "that at once); else it waits.";
    Script.run(sentence, "room for one", """
        make 4 1 -> 0
        thread load 6; put 0; load 7; put 0; end -> 0
        steps 0 0 -> 1 1
        view 0 -> 1 6 2 -1 0 0
        sync 0 0 -> 1
        steps 0 0 -> 1 2
        view 0 -> 2 7 3 0 0 0
        sync 0 0 -> 1
        sync 0 1 -> 1
        """);
    Script.run(sentence, "room for a hundred, not for one more", """
        make 4 100 -> 0
        thread add 1; put 0; jump 0 -> 0
        run 1 0 299 -> 299
        sync 0 0 -> 100
        sync 0 1 -> 0
        look 0 0 -> 1
        run 1 0 299 -> 3
        view 0 -> 2 101 1 0 0 0
        sync 0 0 -> 100
        sync 0 1 -> 1
        thread poll 0; jump 0 -> 1
        steps 1 -> 1
        look 1 1 -> 1
        look 0 0 -> 1
        sync 0 0 -> 100
        steps 1 1 -> 1 1
        look 1 1 -> 2
        sync 0 0 -> 99
        run 1 0 2 -> 2
        """);
    Script.run(sentence, "one waits to take, then none", """
        make 4 1 -> 0
        thread take 0 -> 0
        thread load 5; take 0; end -> 1
        thread load 8; put 0; put 0; put 0; put 0 -> 2
        steps 0 1 1 2 2 -> 2 1 2 1 1
        view 0 -> 4 8 -1 -1 0 0
        look 1 0 -> 2
        look 2 1 -> 8
        sync 0 0 -> 0
        sync 0 1 -> 1
        step 2 -> 1
        view 1 -> 1 8 2 -1 0 0
        sync 0 0 -> 0
        step 2 -> 1
        sync 0 0 -> 1
        step 2 -> 2
        """);
  }

  private static void takes() {
    String sentence = "take o: A is the first one (then the first that waits to put puts its A), none: it waits.";
    Script.run(sentence, "empty", """
        make 4 1 -> 0
        thread load 5; take 0; end -> 0
        steps 0 0 -> 1 2
        view 0 -> 2 5 1 0 0 0
        sync 0 0 -> 0
        sync 0 1 -> 1
        """);
    Script.run(sentence, "those that wait to put come to the end", """
        make 4 2 -> 0
        thread load 1; put 0; load 2; put 0; load 3; put 0; end -> 0
        thread load 4; put 0 -> 1
        thread take 0; take 0; take 0; take 0; take 0 -> 2
        run 1 0 8 -> 8
        sync 0 0 -> 2
        sync 0 1 -> 2
        step 2 -> 1
        look 2 1 -> 1
        view 0 -> 1 3 6 -1 0 0
        look 1 0 -> 2
        sync 0 0 -> 2
        sync 0 1 -> 1
        step 2 -> 1
        look 2 1 -> 2
        view 1 -> 4 4 -1 -1 0 0
        step 2 -> 1
        look 2 1 -> 3
        sync 0 0 -> 1
        step 2 -> 1
        look 2 1 -> 4
        sync 0 0 -> 0
        step 2 -> 2
        """);
  }

  private static void offersAndPolls() {
    String sentence =
        "offer o, poll o: as put, take, if they need not wait, and A is 1 (offer); else A is 0, -1 (poll).";
    Script.run(sentence, "the last that has room, the first that has not", """
        make 4 2 -> 0
        thread load 3; offer 0; load 4; offer 0; load 5; offer 0; end -> 0
        steps 0 0 -> 1 1
        look 0 1 -> 1
        steps 0 0 -> 1 1
        look 0 1 -> 1
        sync 0 0 -> 2
        steps 0 0 -> 1 1
        view 0 -> 1 0 6 -1 0 0
        sync 0 0 -> 2
        sync 0 1 -> 0
        """);
    Script.run(sentence, "the last one, then empty", """
        make 4 2 -> 0
        thread load 3; put 0; load 9; poll 0; poll 0; end -> 0
        run 1 0 4 -> 4
        look 0 1 -> 3
        sync 0 0 -> 0
        step 0 -> 1
        view 0 -> 1 -1 5 -1 0 0
        sync 0 1 -> 0
        """);
    Script.run(sentence, "offer to one that waits to take", """
        make 4 1 -> 0
        thread take 0; end -> 0
        thread load 8; offer 0; offer 0; offer 0 -> 1
        steps 0 1 1 -> 2 1 1
        view 0 -> 1 8 1 -1 0 0
        look 1 1 -> 1
        sync 0 0 -> 0
        step 1 -> 1
        sync 0 0 -> 1
        step 1 -> 4
        look 1 1 -> 0
        """);
    Script.run(sentence, "poll lets one that waits put", """
        make 4 1 -> 0
        thread load 1; put 0; load 2; put 0; end -> 0
        thread poll 0; poll 0; poll 0 -> 1
        run 1 0 4 -> 4
        step 1 -> 1
        look 1 1 -> 1
        view 0 -> 1 2 4 -1 0 0
        sync 0 0 -> 1
        step 1 -> 1
        look 1 1 -> 2
        step 1 -> 4
        look 1 1 -> -1
        """);
    Script.run(sentence, "an interrupt does not matter", """
        make 4 1 -> 0
        thread poll 0; offer 0; offer 0; end -> 0
        interrupt 0 -> 1
        step 0 -> 1
        view 0 -> 1 -1 1 -1 1 0
        steps 0 0 -> 1 1
        view 0 -> 1 0 3 -1 1 0
        """);
  }

  private static void rows() {
    Script.run("Those that wait for one OBJECT go on in the order in which they came", "seven that wait to take",
        "make 4 1 -> 0\n" + Script.lines(7, "thread take 0; end -> #") + """
        thread add 1; put 0; jump 0 -> 7
        steps 6 0 5 1 4 2 3 -> 2 2 2 2 2 2 2
        sync 0 1 -> 7
        run 2 0 1 -> 1
        """ + "steps 7 7 7 7 7 7 7 7 7 7 7 7 7 7 7 7 7 7 7 -> 1 1 1 1 1 1 1 1 1 1 1 1 1 1 1 1 1 1 1\n" + """
        look 6 1 -> 1
        look 0 1 -> 2
        look 5 1 -> 3
        look 1 1 -> 4
        look 4 1 -> 5
        look 2 1 -> 6
        look 3 1 -> 7
        sync 0 0 -> 0
        sync 0 1 -> 0
        """);
    Script.run("Those that wait for one OBJECT go on in the order in which they came", "seven that wait to put",
        "make 4 1 -> 0\n" + Script.lines(7, "thread load #; put 0; end -> #") + """
        thread put 0; take 0; poll 0; poll 0; poll 0; poll 0; poll 0; poll 0; poll 0; poll 0 -> 7
        step 7 -> 1
        steps 6 0 5 1 4 2 3 -> 1 1 1 1 1 1 1
        steps 6 0 5 1 4 2 3 -> 2 2 2 2 2 2 2
        step 7 -> 1
        look 7 1 -> 0
        step 7 -> 1
        look 7 1 -> 6
        step 7 -> 1
        look 7 1 -> 0
        step 7 -> 1
        look 7 1 -> 5
        step 7 -> 1
        look 7 1 -> 1
        step 7 -> 1
        look 7 1 -> 4
        step 7 -> 1
        look 7 1 -> 2
        step 7 -> 1
        look 7 1 -> 3
        step 7 -> 4
        look 7 1 -> -1
        """);
  }

  private static void goesRound() {
    Script.run("put o: A comes to the end of the QUEUE, if it has room", "a QUEUE of 3 goes round", """
        make 4 3 -> 0
        thread put 0; add 1; put 0; add 1; take 0; add 10; put 0; take 0; add 20; put 0; take 0; put 0; poll 0 -> 0
        run 1 0 11 -> 11
        look 0 1 -> 10
        sync 0 0 -> 1
        run 1 0 1 -> 1
        sync 0 0 -> 2
        run 1 0 1 -> 1
        look 0 1 -> 21
        """);
    Script.run("put o: A comes to the end of the QUEUE, if it has room", "a QUEUE of 100 goes round many times", """
        make 4 100 -> 0
        make 5 0 -> 1
        make 5 0 -> 2
        thread inc 1 1; put 0; inc 1 1; put 0; inc 1 1; put 0; take 0; set 2; take 0; jump 0 -> 0
        run 1 0 4000 -> 986
        sync 0 0 -> 100
        sync 1 0 -> 297
        sync 2 0 -> 195
        """);
  }
}
