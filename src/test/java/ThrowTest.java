/** All promises: a call that throws changes nothing, but THE TAPE and PLACE. */
public final class ThrowTest {
  private static final String[] CALLS = {
      "end -1 IAE", "end 4 IAE", "make 8 0 IAE", "make 0 2 IAE", "make 2 -1 IAE", "make 3 9 IAE", "make 4 0 IAE",
      "drop 24 NSE", "drop 20 NSE", "drop 0 ISE", "drop 1 ISE", "drop 2 ISE", "drop 4 ISE", "step -1 IAE", "step 8 IAE",
      "run 3 0 5 IAE", "run -1 0 5 IAE", "run 0 0 4001 IAE", "run 1 0 -1 IAE", "tick -1 IAE", "interrupt -1 IAE",
      "interrupt 8 IAE", "look 8 0 IAE", "look 0 6 IAE", "sync 20 9 NSE", "sync 0 5 IAE", "sync 1 2 UOE",
      "sync 0 4 UOE", "count 5 IAE", "count 34 IAE"};

  public static void main(String[] args) {
    for (String line : CALLS) {
      int blank = line.lastIndexOf(' ');
      TurnKeeper k = busy();
      String before = Script.picture(k);
      Script.due(line, Script.answer(k, line.substring(0, blank)), line.substring(blank + 1));
      Script.due("all behind " + line, Script.picture(k), before);
    }
    brokenAndFull();
    Script.finish();
  }

  /** An object with THREADS in all STATES, rows of all sorts, and a TAPE of 3 bytes. */
  private static TurnKeeper busy() {
    TurnKeeper k = new TurnKeeper();
    k.make(0, 0);
    k.make(1, 0);
    k.make(0, 1);
    k.make(5, 6);
    k.make(4, 2);
    Script.thread(k, "load 1; lock 0; lock 2; wait 2");
    Script.thread(k, "load 2; lock 0; end");
    Script.thread(k, "load 3; acquire 1 2; end");
    Script.thread(k, "load 4; take 4; end");
    Script.thread(k, "load 5; sleep 5; end");
    Script.thread(k, "load 6; get 0; end");
    Script.thread(k, "load 7; end");
    Script.thread(k, "load 8; add 1; join 4");
    k.tick(3);
    k.run(2, 0, 16);
    k.run(1, 0, 2);
    k.interrupt(7);
    Script.tape(k, "xyz");
    return k;
  }

  private static void brokenAndFull() {
    TurnKeeper k = busy();
    k.drop(3);
    String before = Script.picture(k);
    Script.due("thread, broken", Script.answer(k, "thread"), "UOE");
    String due = before.replaceFirst("^3 4 -1 ", "0 4 0 ");
    Script.due("the object had a TAPE", !due.equals(before), true);
    Script.due("all behind a broken one", Script.picture(k), due);

    TurnKeeper full = busy();
    for (int t = 0; t < 8; t++) {
      if (full.look(t, 0) >= 4) {
        Script.thread(full, "jump 0");
      }
    }
    Script.tape(full, "end");
    before = Script.picture(full);
    Script.due("thread, full", Script.answer(full, "thread"), "ISE");
    Script.due("all behind a full one", Script.picture(full), before.replaceFirst("^3 ", "0 "));
  }
}
