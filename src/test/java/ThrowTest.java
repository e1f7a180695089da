/** All promises: a call that throws changes nothing, but THE TAPE and PLACE; what is thrown first. */
public final class ThrowTest {
  private static final String NOTHING = "A call that throws changes nothing, but THE TAPE and PLACE.";
  private static final String[] REFUSED = {
      "end -1 IAE", "end 4 IAE", "make -1 0 IAE", "make 8 0 IAE", "make 0 -1 IAE", "make 0 2 IAE", "make 2 -1 IAE",
      "make 3 0 IAE", "make 3 9 IAE", "make 4 0 IAE", "make 4 101 IAE", "drop -1 NSE", "drop 24 NSE", "drop 20 NSE",
      "drop 0 ISE", "drop 1 ISE", "drop 2 ISE", "drop 4 ISE", "step -1 IAE", "step 8 IAE", "run -1 0 5 IAE",
      "run 3 0 5 IAE", "run 0 0 4001 IAE", "run 1 0 4001 IAE", "run 2 0 4001 IAE", "run 0 0 -1 IAE", "run 1 0 -1 IAE",
      "run 2 0 -1 IAE", "tick -1 IAE", "interrupt -1 IAE", "interrupt 8 IAE", "look -1 0 IAE", "look 8 0 IAE",
      "look 0 -1 IAE", "look 0 6 IAE", "sync -1 0 NSE", "sync 24 0 NSE", "sync 20 9 NSE", "sync 0 -1 IAE",
      "sync 0 5 IAE", "sync 1 2 UOE", "sync 0 4 UOE", "count -1 IAE", "count 5 IAE", "count 9 IAE", "count 34 IAE"};

  public static void main(String[] args) {
    for (String line : REFUSED) {
      int blank = line.lastIndexOf(' ');
      refused(busy(), line.substring(0, blank), line.substring(blank + 1), "");
    }
    refused(withAFullTape(), "feed 1 2 3 4 5", "IOB", "");
    refused(withAllObjects(), "make 5 0", "ISE", "");
    refused(busy(), "thread", "UOE", "0");
    TurnKeeper full = busy();
    for (int t = 0; t < 8; t++) {
      if (full.look(t, 0) >= 4) {
        Script.thread(full, "jump 0");
      }
    }
    Script.tape(full, "end");
    refused(full, "thread", "ISE", "-1");
    inThisOrder();
    Script.finish();
  }

  /** The call throws what is due and changes nothing; if a place is told, that is PLACE then, and THE TAPE is empty. */
  private static void refused(TurnKeeper k, String call, String due, String place) {
    String name = Doc.says(NOTHING) + ", " + call + " that throws " + due;
    String before = Script.picture(k);
    Script.due(name, Script.answer(k, call), due);
    String dueThen = place.isEmpty() ? before : before.replaceFirst("^PLACE -1 3 ", "PLACE " + place + " 0 ");
    Script.due(name + ": there was a TAPE of 3 bytes", place.isEmpty() || !dueThen.equals(before), true);
    Script.due(name + ": all that is seen", Script.picture(k), dueThen);
  }

  /** An object with THREADS in all STATES, rows of all sorts, and a TAPE of 3 bytes. */
  private static TurnKeeper busy() {
    TurnKeeper k = new TurnKeeper();
    k.make(0, 0);
    k.make(1, 0);
    k.make(0, 1);
    k.make(5, 6);
    k.make(4, 2);
    Script.thread(k, "load 1; lock 0; lock 2; wait 2");
    Script.thread(k, "load 2; lock 0; end");
    Script.thread(k, "load 3; acquire 1 2; end");
    Script.thread(k, "load 4; take 4; end");
    Script.thread(k, "load 5; sleep 5; end");
    Script.thread(k, "load 6; get 0; end");
    Script.thread(k, "load 7; end");
    Script.thread(k, "load 8; add 1; join 4");
    k.tick(3);
    k.run(2, 0, 16);
    k.run(1, 0, 2);
    k.interrupt(7);
    Script.tape(k, "xyz");
    return k;
  }

  private static TurnKeeper withAFullTape() {
    TurnKeeper k = busy();
    k.end(0);
    for (int i = 0; i < 80; i++) {
      k.feed(i, i, i, i, i);
    }
    return k;
  }

  private static TurnKeeper withAllObjects() {
    TurnKeeper k = busy();
    for (int o = 5; o < 24; o++) {
      k.make(o & 7, 1);
    }
    return k;
  }

  private static void inThisOrder() {
    Script.run("What is thrown, in this order: NoSuchElementException: an OBJECT is not there",
        "before what is out of range", """
        make 5 0 -> 0
        sync 1 5 -> NSE
        sync 1 -1 -> NSE
        sync 24 5 -> NSE
        sync -1 5 -> NSE
        sync 0 5 -> IAE
        """);
    Script.run("IllegalArgumentException: a number out of range; then as told.", "before what its KIND has not", """
        make 5 0 -> 0
        make 4 1 -> 1
        sync 0 5 -> IAE
        sync 0 -1 -> IAE
        sync 0 4 -> UOE
        sync 1 5 -> IAE
        sync 1 3 -> UOE
        """);
    Script.run("NoSuchElementException: an OBJECT is not there", "drop, before any row", """
        make 2 1 -> 0
        thread await 0 -> 0
        step 0 -> 2
        drop 1 -> NSE
        drop -1 -> NSE
        drop 24 -> NSE
        drop 0 -> ISE
        """);
  }
}
