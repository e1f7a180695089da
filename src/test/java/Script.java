import java.util.NoSuchElementException;

/**
 * Runs scripts against new objects of TurnKeeper, each named by the sentence of the document that it holds the class
 * to. A line of a script is a call and, behind "->", what is due:
 *
 *   thread lock 0; add 1 -> 0    THE TAPE is made that text, then thread() is called
 *   tape some text -> 9          THE TAPE is made longer by that text, with no call of thread()
 *   view 0 -> 1 5 2 -1 0 0       look(0, 0) to look(0, 5)
 *   steps 0 1 1 -> 1 1 2         step(0), step(1), step(1)
 *   sync 0 4 -> UOE              any other call by its name; an exception by the letters below
 *
 * A second object, the twin, gets the calls that do not throw alone: if the two differ at the end, then a call that
 * threw has changed something.
 */
final class Script {
  private static int wrong = 0;
  private static int checks = 0;

  private final String name;
  private final TurnKeeper keeper = new TurnKeeper();
  private final TurnKeeper twin = new TurnKeeper();
  private boolean threw;

  private Script(String name) {
    this.name = name;
  }

  static void run(String sentence, String what, String text) {
    Script script = new Script(Doc.says(sentence) + ", " + what);
    for (String line : text.split("\n")) {
      if (!line.isBlank()) {
        script.runLine(line);
      }
    }
    if (script.threw) {
      script.compareWithTwin();
    }
  }

  static void due(String what, Object got, Object want) {
    checks++;
    if (!want.equals(got)) {
      wrong++;
      System.out.println(what + " answered " + got + ", due is " + want);
    }
  }

  static void finish() {
    System.out.println(checks + " checks, " + wrong + " wrong");
    System.exit(wrong == 0 && checks > 0 ? 0 : 1);
  }

  /** THE TAPE is made longer by a text, as a caller has to do it: 20 bytes a call, then cut. */
  static int tape(TurnKeeper keeper, String text) {
    int length = (int) keeper.count(0);
    for (int from = 0; from < text.length(); from += 20) {
      int[] fours = new int[5];
      for (int i = 0; i < 20; i++) {
        int b = from + i < text.length() ? text.charAt(from + i) : 0;
        fours[i / 4] = fours[i / 4] << 8 | b;
      }
      keeper.feed(fours[0], fours[1], fours[2], fours[3], fours[4]);
    }
    return keeper.end(length + text.length());
  }

  static int thread(TurnKeeper keeper, String program) {
    keeper.end(0);
    tape(keeper, program);
    return keeper.thread();
  }

  /** All that can be seen of an object. */
  static String picture(TurnKeeper keeper) {
    return "PLACE " + keeper.count(2) + " " + pictureButPlace(keeper);
  }

  private static String pictureButPlace(TurnKeeper keeper) {
    StringBuilder seen = new StringBuilder();
    for (int what = 0; what < 34; what++) {
      seen.append(what == 2 || what > 4 && what < 10 ? "" : keeper.count(what) + " ");
    }
    for (int t = 0; t < 8; t++) {
      seen.append(view(keeper, t)).append('|');
    }
    for (int o = 0; o < 24; o++) {
      for (int what = 0; what < 5 && keeper.count(10 + o) >= 0; what++) {
        seen.append(answer(keeper, "sync " + o + " " + what)).append(' ');
      }
    }
    return seen.append(keeper.dead()).toString();
  }

  /** So many lines, with the number of each, from 0 on, for every # in it. */
  static String lines(int n, String line) {
    StringBuilder all = new StringBuilder();
    for (int i = 0; i < n; i++) {
      all.append(line.replace("#", "" + i)).append('\n');
    }
    return all.toString();
  }

  /** What a call answers, or the letters of what it throws. */
  static String answer(TurnKeeper keeper, String call) {
    try {
      return call(keeper, call);
    } catch (NoSuchElementException e) {
      return "NSE";
    } catch (IllegalArgumentException e) {
      return e.getClass() == IllegalArgumentException.class ? "IAE" : e.toString();
    } catch (IllegalStateException e) {
      return "ISE";
    } catch (UnsupportedOperationException e) {
      return "UOE";
    } catch (IndexOutOfBoundsException e) {
      return e.getClass() == IndexOutOfBoundsException.class ? "IOB" : e.toString();
    } catch (RuntimeException e) {
      return e.toString();
    }
  }

  private void runLine(String line) {
    int arrow = line.lastIndexOf("->");
    String call = line.substring(0, arrow).strip();
    String got = answer(keeper, call);
    due(name + ": " + call, got, line.substring(arrow + 2).strip());
    if (got.matches("[-0-9 ]*")) {
      answer(twin, call);
      return;
    }
    threw = true;
    if (call.startsWith("thread")) {
      twin.end(0);
    }
  }

  /** Also what can't be seen at once: THE TAPE's bytes, whose turn it is, the rows' order, how long sleepers sleep. */
  private void compareWithTwin() {
    due(name + ": all that is seen", pictureButPlace(keeper), pictureButPlace(twin));
    String[] more = {"thread", "count 2", "run 2 0 5", "tick 1", "run 2 0 99", "tick 9", "run 0 8 99"};
    for (String call : more) {
      due(name + ": then " + call, answer(keeper, call), answer(twin, call));
    }
    due(name + ": all that is seen then", pictureButPlace(keeper), pictureButPlace(twin));
  }

  private static String call(TurnKeeper keeper, String call) {
    if (call.startsWith("thread ")) {
      return "" + thread(keeper, call.substring(7));
    }
    if (call.startsWith("tape ")) {
      return "" + tape(keeper, call.substring(5));
    }
    String[] w = call.split(" +");
    int[] n = new int[Math.max(5, w.length)];
    for (int i = 1; i < w.length; i++) {
      n[i - 1] = Integer.parseInt(w[i]);
    }
    switch (w[0]) {
      case "feed": return "" + keeper.feed(n[0], n[1], n[2], n[3], n[4]);
      case "end": return "" + keeper.end(n[0]);
      case "make": return "" + keeper.make(n[0], n[1]);
      case "drop": return "" + keeper.drop(n[0]);
      case "thread": return "" + keeper.thread();
      case "step": return "" + keeper.step(n[0]);
      case "steps": return steps(keeper, w);
      case "run": return "" + keeper.run(n[0], n[1], n[2]);
      case "tick": return "" + keeper.tick(n[0]);
      case "interrupt": return "" + keeper.interrupt(n[0]);
      case "look": return "" + keeper.look(n[0], n[1]);
      case "view": return view(keeper, n[0]);
      case "dead": return "" + keeper.dead();
      case "sync": return "" + keeper.sync(n[0], n[1]);
      case "count": return "" + keeper.count(n[0]);
      default: throw new RuntimeException("no such call: " + call);
    }
  }

  private static String steps(TurnKeeper keeper, String[] words) {
    StringBuilder all = new StringBuilder();
    for (int i = 1; i < words.length; i++) {
      all.append(i > 1 ? " " : "").append(keeper.step(Integer.parseInt(words[i])));
    }
    return all.toString();
  }

  private static String view(TurnKeeper keeper, int t) {
    StringBuilder all = new StringBuilder();
    for (int what = 0; what < 6; what++) {
      all.append(what > 0 ? " " : "").append(keeper.look(t, what));
    }
    return all.toString();
  }
}
