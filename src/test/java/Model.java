import java.util.ArrayList;
import java.util.HashMap;
import java.util.List;
import java.util.Map;
import java.util.TreeMap;
import java.util.regex.Matcher;
import java.util.regex.Pattern;

/**
 * A second telling of the document, with the Java library and without care for speed or room: rows are not held at
 * all, but found from the threads' own notes of where they wait and since when. It answers as Script does.
 */
final class Model {
  private static final Map<String, String> NUMBERS = new HashMap<>();
  private static final Map<String, Integer> KINDS = new HashMap<>();

  static {
    String[] words = {"load n", "add n", "jump k", "zero k", "less k", "sleep n", "end", "time", "lock o:0", "try o:0",
        "unlock o:0", "wait o:0", "signal o:0", "all o:0", "get o:5", "set o:5", "inc on:5", "cas onn:5",
        "acquire op:1", "release op:1", "drain o:1", "down o:2", "await o:2", "meet o:3", "put o:4", "take o:4",
        "offer o:4", "poll o:4", "give o:6", "join o:6", "in o:7", "out o:7", "own o:7", "back o:7"};
    for (String word : words) {
      String[] parts = word.split("[ :]");
      NUMBERS.put(parts[0], parts.length > 1 ? parts[1] : "");
      KINDS.put(parts[0], parts.length > 2 ? Integer.parseInt(parts[2]) : -1);
    }
  }

  /** What is thrown, by its letters. */
  private static final class Thrown extends RuntimeException {
    Thrown(String letters) {
      super(letters);
    }
  }

  private static final class Thing {
    int kind;
    int a;
    int owner = -1;
    int holds;
    int readers;
    Integer given;
    List<Integer> items = new ArrayList<>();
  }

  private static final class Runner {
    int state;
    int a;
    int at;
    int why;
    boolean interrupted;
    List<String[]> program = new ArrayList<>();
    /** Where it is in a row (also READY there): the OBJECT, 1 or 2 for the row, and when it came. */
    int thing = -1;
    int row;
    long came;
    int kept;
    int answer;
    long until;
  }

  private final StringBuilder tape = new StringBuilder();
  private final TreeMap<Integer, Thing> things = new TreeMap<>();
  private final Runner[] runners = new Runner[8];
  private long clock;
  private long done;
  private long place = -1;
  private long arrivals;
  private int latest = 7;

  Model() {
    for (int t = 0; t < 8; t++) {
      runners[t] = new Runner();
    }
  }

  String answer(String call) {
    try {
      if (call.startsWith("thread ")) {
        tape.setLength(0);
        tape.append(call.substring(7));
        return "" + thread();
      }
      String[] w = call.split(" ");
      int[] n = new int[6];
      for (int i = 1; i < w.length; i++) {
        n[i - 1] = Integer.parseInt(w[i]);
      }
      return "" + called(w[0], n);
    } catch (Thrown e) {
      return e.getMessage();
    }
  }

  private long called(String name, int[] n) {
    switch (name) {
      case "feed": return feed(n);
      case "end": return end(n[0]);
      case "make": return make(n[0], n[1]);
      case "drop": return drop(n[0]);
      case "thread": return thread();
      case "step": return step(n[0]);
      case "run": return run(n[0], n[1], n[2]);
      case "tick": return tick(n[0]);
      case "interrupt": return interrupt(n[0]);
      case "look": return look(n[0], n[1]);
      case "dead": return dead();
      case "sync": return sync(n[0], n[1]);
      case "count": return count(n[0]);
      default: throw new RuntimeException(name);
    }
  }

  private static void need(boolean holds, String letters) {
    if (!holds) {
      throw new Thrown(letters);
    }
  }

  private long feed(int[] n) {
    need(tape.length() <= 1580, "IOB");
    for (int i = 0; i < 20; i++) {
      tape.append((char) (n[i / 4] >> (24 - 8 * (i % 4)) & 255));
    }
    return tape.length();
  }

  private long end(int n) {
    need(n >= 0 && n <= tape.length(), "IAE");
    tape.setLength(n);
    return n;
  }

  private long make(int kind, int a) {
    need(kind >= 0 && kind <= 7, "IAE");
    int[] least = {0, Integer.MIN_VALUE, 0, 1, 1, Integer.MIN_VALUE, Integer.MIN_VALUE, Integer.MIN_VALUE};
    int[] most = {1, Integer.MAX_VALUE, Integer.MAX_VALUE, 8, 100, Integer.MAX_VALUE, Integer.MAX_VALUE,
        Integer.MAX_VALUE};
    need(a >= least[kind] && a <= most[kind], "IAE");
    need(things.size() < 24, "ISE");
    int o = 0;
    while (things.containsKey(o)) {
      o++;
    }
    Thing made = new Thing();
    made.kind = kind;
    made.a = a;
    things.put(o, made);
    return o;
  }

  private long drop(int o) {
    need(things.containsKey(o), "NSE");
    need(row(o, 1).isEmpty() && row(o, 2).isEmpty(), "ISE");
    things.remove(o);
    return things.size();
  }

  private long thread() {
    String text = tape.toString();
    tape.setLength(0);
    List<String[]> program = new ArrayList<>();
    place = parse(text, program);
    need(place < 0, "UOE");
    for (int t = 0; t < 8; t++) {
      if (runners[t].state == 0 || runners[t].state >= 4) {
        runners[t] = new Runner();
        runners[t].state = 1;
        runners[t].program = program;
        return t;
      }
    }
    throw new Thrown("ISE");
  }

  /** Where the text is broken, -1 for nowhere. */
  private static int parse(String text, List<String[]> program) {
    Matcher blanks = Pattern.compile(" *").matcher(text);
    Matcher word = Pattern.compile("[a-z]+").matcher(text);
    Matcher number = Pattern.compile("-?[0-9]{1,9}").matcher(text);
    int at = 0;
    while (true) {
      at = past(blanks, at);
      int from = at;
      at = past(word, at);
      String name = text.substring(from, at);
      if (program.size() == 60 || !NUMBERS.containsKey(name)) {
        return from;
      }
      String ranges = NUMBERS.get(name);
      String[] instruction = new String[1 + ranges.length()];
      instruction[0] = name;
      for (int i = 0; i < ranges.length(); i++) {
        if (past(blanks, at) == at) {
          return at;
        }
        from = past(blanks, at);
        at = past(number, from);
        if (at == from) {
          return text.startsWith("-", at) ? at + 1 : at;
        }
        instruction[1 + i] = text.substring(from, at);
        if (!inRange(ranges.charAt(i), Integer.parseInt(instruction[1 + i]))) {
          return from;
        }
      }
      program.add(instruction);
      at = past(blanks, at);
      if (at == text.length()) {
        return -1;
      }
      if (text.charAt(at) != ';') {
        return at;
      }
      at++;
    }
  }

  private static int past(Matcher m, int at) {
    m.region(at, m.regionEnd());
    return m.lookingAt() ? m.end() : at;
  }

  private static boolean inRange(char range, int n) {
    return range == 'n' || range == 'p' && n > 0 || n >= 0 && (range == 'o' && n < 24 || range == 'k' && n < 60);
  }

  private List<Runner> row(int o, int which) {
    List<Runner> found = new ArrayList<>();
    for (Runner r : runners) {
      if (r.thing == o && r.row == which) {
        found.add(r);
      }
    }
    found.sort((x, y) -> Long.compare(x.came, y.came));
    return found;
  }

  private int numberOf(Runner r) {
    for (int t = 0; t < 8; t++) {
      if (runners[t] == r) {
        return t;
      }
    }
    return -1;
  }

  private long step(int t) {
    need(t >= 0 && t < 8, "IAE");
    if (runners[t].state == 1) {
      turn(t);
    }
    return runners[t].state;
  }

  private long run(int how, int s, int n) {
    need(how >= 0 && how <= 2 && n >= 0 && n <= 4000, "IAE");
    int seed = s;
    for (int i = 0; i < n; i++) {
      List<Integer> ready = new ArrayList<>();
      for (int t = 0; t < 8; t++) {
        if (runners[t].state == 1) {
          ready.add(t);
        }
      }
      if (ready.isEmpty()) {
        return i;
      }
      int chosen = ready.get(0);
      if (how == 0) {
        seed = seed * 1103515245 + 12345;
        chosen = ready.get((seed >>> 8) % ready.size());
      } else if (how == 2) {
        for (int t : ready) {
          if (t > latest) {
            chosen = t;
            break;
          }
        }
      }
      turn(chosen);
    }
    return n;
  }

  private long tick(int n) {
    need(n >= 0, "IAE");
    clock += n;
    int woken = 0;
    for (Runner r : runners) {
      if (r.state == 3 && r.until <= clock) {
        over(r);
        woken++;
      }
    }
    return woken;
  }

  private long interrupt(int t) {
    need(t >= 0 && t < 8, "IAE");
    Runner r = runners[t];
    if (r.state == 1) {
      r.interrupted = true;
    } else if (r.state == 3 || r.state == 2 && r.kept == 0) {
      over(r, -2);
    } else if (r.state == 2) {
      r.answer = -2;
      if (r.row == 2) {
        boolean alone = row(r.thing, 1).isEmpty();
        r.row = 1;
        r.came = arrivals++;
        if (alone && things.get(r.thing).owner < 0) {
          wakeAtLock(r.thing);
        }
      }
    } else {
      return 0;
    }
    return 1;
  }

  private long look(int t, int what) {
    need(t >= 0 && t < 8 && what >= 0 && what <= 5, "IAE");
    Runner r = runners[t];
    int[] all = {r.state, r.a, r.state == 0 || r.state == 4 ? -1 : r.at, r.state == 2 ? r.thing : -1,
        r.interrupted ? 1 : 0, r.why};
    return all[what];
  }

  private long dead() {
    for (int t = 0; t < 8; t++) {
      int at = t;
      for (int i = 0; i < 8 && at >= 0; i++) {
        Runner r = runners[at];
        boolean stuck = r.state == 2 && r.row == 1 && things.get(r.thing).kind == 0;
        at = stuck ? things.get(r.thing).owner : -1;
        if (at == t) {
          return t;
        }
      }
    }
    return -1;
  }

  private long sync(int o, int what) {
    Thing x = things.get(o);
    need(x != null, "NSE");
    need(what >= 0 && what <= 4, "IAE");
    need(what < 2 || what == 2 && (x.kind == 0 || x.kind == 7) || what == 3 && x.kind == 0
        || what == 4 && x.kind == 4, "UOE");
    int waiting = row(o, 1).size();
    switch (what) {
      case 1: return waiting;
      case 2: return x.owner;
      case 3: return row(o, 2).size();
      case 4: return x.a;
      default: break;
    }
    switch (x.kind) {
      case 0: return x.holds;
      case 3: return waiting;
      case 4: return x.items.size();
      case 6: return x.given == null ? 1099511627776L : x.given;
      case 7: return x.readers;
      default: return x.a;
    }
  }

  private long count(int what) {
    need(what >= 0 && what <= 4 || what >= 10 && what <= 33, "IAE");
    if (what >= 10) {
      return things.containsKey(what - 10) ? things.get(what - 10).kind : -1;
    }
    long[] all = {tape.length(), things.size(), place, clock, done};
    return all[what];
  }

  private void over(Runner r) {
    r.thing = -1;
    r.row = 0;
    go(r, r.at + 1);
  }

  private void over(Runner r, int a) {
    r.a = a;
    over(r);
  }

  private void go(Runner r, int k) {
    r.at = k;
    r.state = k < r.program.size() ? 1 : 4;
  }

  private void fail(Runner r, int why) {
    r.state = 5;
    r.why = why;
  }

  private void hold(Runner r, int o, int which) {
    r.state = 2;
    r.thing = o;
    r.row = which;
    r.came = arrivals++;
  }

  private boolean spared(Runner r) {
    if (r.interrupted) {
      r.interrupted = false;
      over(r, -2);
      return true;
    }
    return false;
  }

  private void wait(Runner r, int o) {
    if (!spared(r)) {
      hold(r, o, 1);
    }
  }

  private void turn(int t) {
    Runner r = runners[t];
    done++;
    latest = t;
    if (r.row == 1) {
      if (things.get(r.thing).owner < 0) {
        haveLock(r);
      } else {
        r.state = 2;
      }
      return;
    }
    String[] in = r.program.get(r.at);
    int[] n = new int[4];
    for (int i = 1; i < in.length; i++) {
      n[i - 1] = Integer.parseInt(in[i]);
    }
    int kind = KINDS.get(in[0]);
    Thing x = things.get(n[0]);
    if (kind >= 0 && (x == null || x.kind != kind)) {
      fail(r, 2);
      return;
    }
    switch (kind) {
      case -1: alone(r, in[0], n[0]); break;
      case 0: lock(r, t, in[0], n[0], x); break;
      case 1: semaphore(r, in[0], n, x); break;
      case 4: queue(r, in[0], n[0], x); break;
      case 5: cell(r, in[0], n, x); break;
      case 7: gate(r, t, in[0], n[0], x); break;
      default: crowd(r, in[0], n[0], x); break;
    }
  }

  private void alone(Runner r, String word, int n) {
    switch (word) {
      case "load": over(r, n); break;
      case "add": over(r, r.a + n); break;
      case "jump": go(r, n); break;
      case "zero": go(r, r.a == 0 ? n : r.at + 1); break;
      case "less": go(r, r.a < 0 ? n : r.at + 1); break;
      case "time": over(r, (int) clock); break;
      case "end": r.state = 4; break;
      default:
        if (n < 1) {
          over(r);
        } else if (!spared(r)) {
          r.state = 3;
          r.until = clock + n;
        }
        break;
    }
  }

  private void lock(Runner r, int t, String word, int o, Thing x) {
    boolean can = x.owner < 0 || x.owner == t;
    if (word.equals("lock") || word.equals("try")) {
      if (can) {
        x.owner = t;
        x.holds++;
      }
      if (word.equals("try")) {
        over(r, can ? 1 : 0);
      } else if (can) {
        over(r);
      } else {
        hold(r, o, 1);
      }
    } else if (x.owner != t) {
      fail(r, 1);
    } else if (word.equals("unlock")) {
      over(r);
      if (--x.holds == 0) {
        x.owner = -1;
        wakeAtLock(o);
      }
    } else if (word.equals("wait")) {
      if (!spared(r)) {
        r.kept = x.holds;
        x.holds = 0;
        x.owner = -1;
        hold(r, o, 2);
        wakeAtLock(o);
      }
    } else {
      over(r);
      for (Runner w : row(o, 2)) {
        w.answer = 1;
        w.row = 1;
        w.came = arrivals++;
        if (word.equals("signal")) {
          break;
        }
      }
    }
  }

  private void wakeAtLock(int o) {
    List<Runner> row = row(o, 1);
    if (row.isEmpty()) {
      return;
    }
    if (things.get(o).a == 1) {
      haveLock(row.get(0));
    } else {
      row.get(0).state = 1;
    }
  }

  private void haveLock(Runner r) {
    Thing x = things.get(r.thing);
    x.owner = numberOf(r);
    x.holds = Math.max(1, r.kept);
    r.a = r.kept > 0 ? r.answer : r.a;
    r.kept = 0;
    over(r);
  }

  private void semaphore(Runner r, String word, int[] n, Thing x) {
    if (word.equals("drain")) {
      r.a = Math.max(0, x.a);
      x.a = Math.min(0, x.a);
      over(r);
    } else if (word.equals("release")) {
      x.a += n[1];
      over(r);
      for (Runner w : row(n[0], 1)) {
        int wants = Integer.parseInt(w.program.get(w.at)[2]);
        if (wants > x.a) {
          break;
        }
        x.a -= wants;
        over(w);
      }
    } else if (x.a >= n[1] && row(n[0], 1).isEmpty()) {
      x.a -= n[1];
      over(r);
    } else {
      wait(r, n[0]);
    }
  }

  private void cell(Runner r, String word, int[] n, Thing x) {
    switch (word) {
      case "get": over(r, x.a); break;
      case "set": x.a = r.a; over(r); break;
      case "inc": x.a += n[1]; over(r, x.a); break;
      default:
        r.a = x.a == n[1] ? 1 : 0;
        x.a = x.a == n[1] ? n[2] : x.a;
        over(r);
        break;
    }
  }

  /** LATCH, BARRIER, FUTURE. */
  private void crowd(Runner r, String word, int o, Thing x) {
    List<Runner> row = row(o, 1);
    switch (word) {
      case "down":
        over(r);
        x.a = Math.max(0, x.a - 1);
        if (x.a == 0) {
          row.forEach(this::over);
        }
        break;
      case "await":
        if (x.a == 0) {
          over(r);
        } else {
          wait(r, o);
        }
        break;
      case "meet":
        r.a = x.a - row.size() - 1;
        if (r.a == 0) {
          row.forEach(this::over);
          over(r);
        } else {
          wait(r, o);
        }
        break;
      case "give":
        if (x.given == null) {
          x.given = r.a;
          row.forEach(w -> over(w, x.given));
          over(r, 1);
        } else {
          over(r, 0);
        }
        break;
      default:
        if (x.given == null) {
          wait(r, o);
        } else {
          over(r, x.given);
        }
        break;
    }
  }

  private static boolean standsAt(Runner r, String word) {
    return r.program.get(r.at)[0].equals(word);
  }

  private void queue(Runner r, String word, int o, Thing x) {
    List<Runner> row = row(o, 1);
    Runner first = row.isEmpty() ? null : row.get(0);
    if (word.equals("put") || word.equals("offer")) {
      boolean fits = true;
      if (first != null && standsAt(first, "take")) {
        over(first, r.a);
      } else if (x.items.size() < x.a) {
        x.items.add(r.a);
      } else {
        fits = false;
      }
      if (word.equals("offer")) {
        over(r, fits ? 1 : 0);
      } else if (fits) {
        over(r);
      } else {
        wait(r, o);
      }
    } else if (!x.items.isEmpty()) {
      over(r, x.items.remove(0));
      if (first != null) {
        x.items.add(first.a);
        over(first);
      }
    } else if (word.equals("poll")) {
      over(r, -1);
    } else {
      wait(r, o);
    }
  }

  private void gate(Runner r, int t, String word, int o, Thing x) {
    switch (word) {
      case "in":
        if (x.owner < 0 && row(o, 1).isEmpty()) {
          x.readers++;
          over(r);
        } else {
          wait(r, o);
        }
        break;
      case "own":
        if (x.owner < 0 && x.readers == 0) {
          x.owner = t;
          over(r);
        } else {
          wait(r, o);
        }
        break;
      case "out":
        if (x.readers == 0) {
          fail(r, 3);
        } else {
          x.readers--;
          over(r);
          if (x.readers == 0) {
            openGate(o, x);
          }
        }
        break;
      default:
        if (x.owner != t) {
          fail(r, 1);
        } else {
          x.owner = -1;
          over(r);
          openGate(o, x);
        }
        break;
    }
  }

  private void openGate(int o, Thing x) {
    List<Runner> row = row(o, 1);
    if (!row.isEmpty() && standsAt(row.get(0), "own")) {
      x.owner = numberOf(row.get(0));
      over(row.get(0));
      return;
    }
    for (Runner w : row) {
      if (standsAt(w, "own")) {
        break;
      }
      x.readers++;
      over(w);
    }
  }
}
