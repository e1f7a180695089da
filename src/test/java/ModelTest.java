import java.util.Random;

/** All promises: drawn calls, right and wrong ones, answered by the class as by the Model, call for call. */
public final class ModelTest {
  private static final String[][] WORDS = {
      {"lock 0", "try 0", "unlock 0", "unlock 0", "wait 0", "signal 0", "all 0", "lock 0"},
      {"acquire 1 1", "acquire 1 2", "acquire 1 3", "release 1 1", "release 1 2", "release 1 4", "drain 1"},
      {"down 2", "await 2", "await 2"},
      {"meet 3"},
      {"put 4", "take 4", "offer 4", "poll 4"},
      {"get 5", "set 5", "inc 5 3", "inc 5 -3", "cas 5 0 1", "cas 5 1 0"},
      {"give 6", "join 6", "join 6"},
      {"in 7", "out 7", "own 7", "back 7"},
      {"load 0", "load 5", "load -1", "add 1", "add -2", "zero 0", "less 2", "jump 1", "jump 9", "sleep 1", "sleep 3",
          "sleep 0", "end", "time"}};
  private static final int OBJECTS = 1500;
  private static final int CALLS = 110;

  private final Random random;
  private final TurnKeeper keeper = new TurnKeeper();
  private final Model model = new Model();
  private final StringBuilder told = new StringBuilder();
  private boolean same = true;

  private ModelTest(long seed) {
    random = new Random(seed);
  }

  public static void main(String[] args) {
    for (int i = 0; i < OBJECTS; i++) {
      new ModelTest(i).compare(i);
    }
    Script.finish();
  }

  private void compare(int seed) {
    for (int kind = 0; kind < 8; kind++) {
      say("make " + kind + " " + some(0, 1, 1, 2, 3));
    }
    say("make 0 " + random.nextInt(2));
    for (int t = 0; t < 4; t++) {
      say("thread " + program());
    }
    for (int i = 0; i < CALLS && same; i++) {
      say(call());
      say("look " + random.nextInt(8) + " " + random.nextInt(6));
      say("sync " + random.nextInt(10) + " " + random.nextInt(5));
    }
    for (int t = 0; t < 8; t++) {
      for (int what = 0; what < 6; what++) {
        say("look " + t + " " + what);
      }
    }
    say("dead");
    Script.due("the object drawn by " + seed + told, same, true);
  }

  private void say(String call) {
    if (same) {
      String got = Script.answer(keeper, call);
      String due = model.answer(call);
      same = got.equals(due);
      told.append('\n').append(call).append(" -> ").append(got);
      if (!same) {
        told.append(", due is ").append(due);
      } else if (told.length() > 4000) {
        told.delete(0, 2000);
      }
    }
  }

  private int some(int... choices) {
    return choices[random.nextInt(choices.length)];
  }

  private String call() {
    switch (random.nextInt(28)) {
      case 0: return "run 0 " + random.nextInt() + " " + random.nextInt(30);
      case 1: return "run 1 0 " + random.nextInt(5);
      case 2: return "run 2 0 " + random.nextInt(20);
      case 3: case 4: return "interrupt " + random.nextInt(8);
      case 5: return "tick " + random.nextInt(4);
      case 6: return "dead";
      case 7: return "drop " + random.nextInt(10);
      case 8: case 9: return "make " + random.nextInt(8) + " " + some(0, 1, 1, 1, 2, 3);
      case 10: case 11: case 12: return "thread " + program();
      case 13: return oddCall();
      case 14: return "count " + random.nextInt(36);
      default: return "step " + random.nextInt(8);
    }
  }

  private String oddCall() {
    int odd = some(-1, 8, 9, 24, 25, 101, 4001, Integer.MIN_VALUE, Integer.MAX_VALUE);
    switch (random.nextInt(10)) {
      case 0: return "step " + odd;
      case 1: return "interrupt " + odd;
      case 2: return "run " + odd + " 0 1";
      case 3: return "run 0 1 " + some(-1, 4001, Integer.MIN_VALUE);
      case 4: return "tick " + -random.nextInt(3);
      case 5: return "drop " + odd;
      case 6: return "make " + some(-1, 0, 3, 4, 8) + " " + odd;
      case 7: return "sync " + odd + " " + odd;
      case 8: return "look " + odd + " 0";
      default: return "thread " + broken(program());
    }
  }

  private String program() {
    StringBuilder text = new StringBuilder();
    String[] favourite = WORDS[random.nextInt(WORDS.length)];
    String[] second = WORDS[random.nextInt(WORDS.length)];
    int length = 1 + random.nextInt(9);
    for (int i = 0; i < length; i++) {
      String[] from = random.nextInt(3) == 0 ? second : favourite;
      String word = random.nextInt(12) == 0 ? anyWord() : from[random.nextInt(from.length)];
      text.append(i > 0 ? "; " : "").append(word);
    }
    if (random.nextInt(3) == 0) {
      text.append("; jump 0");
    }
    return text.toString();
  }

  private String anyWord() {
    String[] from = WORDS[random.nextInt(WORDS.length)];
    return from[random.nextInt(from.length)].replaceFirst("(^lock|^unlock|^wait) 0", "$1 8");
  }

  /** The text with a byte changed, taken out or put in, so that most are broken and some are not. */
  private String broken(String text) {
    StringBuilder made = new StringBuilder(text);
    int at = random.nextInt(text.length());
    String odd = " ;-0129azx_\0\u00ff";
    char other = odd.charAt(random.nextInt(odd.length()));
    switch (random.nextInt(4)) {
      case 0: made.setCharAt(at, other); break;
      case 1: made.deleteCharAt(at); break;
      case 2: made.insert(at, other); break;
      default: made.setLength(Math.max(1, at)); break;
    }
    return made.toString();
  }
}
