/** Promise 11: look. */
public final class LookTest {
  public static void main(String[] args) {
    ranges();
    eachWhat();
    objectsWaitedFor();
    Script.finish();
  }

  private static void ranges() {
    Script.run("Of THREAD t, what 0 .. 5 as told.", "below 0 and above 5", """
        thread add 1 -> 0
        look 0 -1 -> IAE
        look 0 6 -> IAE
        look 7 -1 -> IAE
        look 7 6 -> IAE
        look 0 2147483647 -> IAE
        look 0 -2147483648 -> IAE
        look -1 6 -> IAE
        look 8 -1 -> IAE
        look 0 0 -> 1
        look 0 5 -> 0
        look 7 0 -> 0
        look 7 5 -> 0
        """);
  }

  private static void eachWhat() {
    String some = """
        make 5 0 -> 0
        make 2 1 -> 1
        thread load 1; await 1; end -> 0
        thread load 2; sleep 1 -> 1
        thread load 3; out 0 -> 2
        thread load 4; end -> 3
        thread load 5; await 1 -> 4
        steps 0 0 1 1 2 2 3 3 4 -> 1 2 1 3 1 5 1 4 1
        interrupt 4 -> 1
        """;
    Script.run("look(t, what): 0 STATE, 1 A", "each STATE", some + """
        look 0 0 -> 2
        look 1 0 -> 3
        look 2 0 -> 5
        look 3 0 -> 4
        look 4 0 -> 1
        look 5 0 -> 0
        look 0 1 -> 1
        look 1 1 -> 2
        look 2 1 -> 3
        look 3 1 -> 4
        look 4 1 -> 5
        look 5 1 -> 0
        """);
    Script.run("2 the INSTRUCTION where it stands (from 0; -1 of none and ENDED ones)", "each STATE", some + """
        look 0 2 -> 1
        look 1 2 -> 1
        look 2 2 -> 1
        look 3 2 -> -1
        look 4 2 -> 1
        look 5 2 -> -1
        thread end; end -> 2
        look 2 2 -> 0
        """);
    Script.run("2 the INSTRUCTION where it stands (from 0; -1 of none and ENDED ones)", "the 60th",
        "thread " + "end;".repeat(59) + "jump 59 -> 0\nthread jump 59; " + "end;".repeat(58) + "end -> 1\n"
        + "step 1 -> 1\nlook 1 2 -> 59\nstep 1 -> 4\nlook 1 2 -> -1\n");
    Script.run("4 1 if interrupted", "only a READY one has it to come", some + """
        look 0 4 -> 0
        look 4 4 -> 1
        interrupt 0 -> 1
        interrupt 1 -> 1
        interrupt 2 -> 0
        interrupt 5 -> 0
        look 0 4 -> 0
        look 1 4 -> 0
        look 2 4 -> 0
        look 5 4 -> 0
        step 4 -> 4
        look 4 4 -> 0
        """);
    Script.run("5 why FAILED (0).", "0, 1, 2, 3", some + """
        make 0 0 -> 2
        make 7 0 -> 3
        thread unlock 2 -> 2
        thread out 3 -> 3
        thread get 9 -> 5
        steps 2 3 5 -> 5 5 5
        look 2 5 -> 1
        look 3 5 -> 3
        look 5 5 -> 2
        look 0 5 -> 0
        look 1 5 -> 0
        look 4 5 -> 0
        look 6 5 -> 0
        thread end -> 2
        look 2 5 -> 0
        """);
  }

  private static void objectsWaitedFor() {
    String sentence = "3 the OBJECT that it waits for (-1)";
    Script.run(sentence, "OBJECTS 0 and 23", Script.lines(24, "make 6 0 -> #") + """
        thread join 0; end -> 0
        thread join 23; end -> 1
        look 0 3 -> -1
        steps 0 1 -> 2 2
        look 0 3 -> 0
        look 1 3 -> 23
        look 2 3 -> -1
        interrupt 1 -> 1
        look 1 3 -> -1
        step 1 -> 4
        look 1 3 -> -1
        """);
    Script.run(sentence, "both rows of a LOCK, READY in the row, asleep, FAILED", """
        make 5 0 -> 0
        make 0 0 -> 1
        thread lock 1; wait 1 -> 0
        thread lock 1; signal 1; unlock 1 -> 1
        thread lock 1 -> 2
        thread sleep 9 -> 3
        thread unlock 1 -> 4
        steps 0 0 1 2 3 4 -> 1 2 1 2 3 5
        look 0 3 -> 1
        look 1 3 -> -1
        look 2 3 -> 1
        look 3 3 -> -1
        look 4 3 -> -1
        step 1 -> 1
        look 0 3 -> 1
        step 1 -> 4
        look 2 0 -> 1
        look 2 3 -> -1
        look 0 3 -> 1
        """);
  }
}
