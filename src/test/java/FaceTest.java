import java.lang.reflect.Constructor;
import java.lang.reflect.Field;
import java.lang.reflect.Method;
import java.lang.reflect.Modifier;
import java.util.Set;
import java.util.TreeSet;

/** The public face is that of the document, and no member stands beside it (rules 1 and 5 of LANGUAGE.md). */
public final class FaceTest {
  private static final String[] FACE = {
      "int feed(int,int,int,int,int) IndexOutOfBoundsException",
      "int end(int) IllegalArgumentException",
      "int make(int,int) IllegalArgumentException IllegalStateException",
      "int drop(int) NoSuchElementException IllegalStateException",
      "int thread() IllegalStateException UnsupportedOperationException",
      "int step(int) IllegalArgumentException",
      "int run(int,int,int) IllegalArgumentException",
      "int tick(int) IllegalArgumentException",
      "int interrupt(int) IllegalArgumentException",
      "int look(int,int) IllegalArgumentException",
      "int dead()",
      "long sync(int,int) NoSuchElementException IllegalArgumentException UnsupportedOperationException",
      "long count(int) IllegalArgumentException"};

  public static void main(String[] args) {
    Class<?> c = TurnKeeper.class;
    Script.due("the class", Modifier.toString(c.getModifiers()), "public final");
    Constructor<?>[] made = c.getDeclaredConstructors();
    Script.due("constructors", made.length == 1 && made[0].getParameterCount() == 0
        && made[0].getModifiers() == Modifier.PUBLIC, true);
    Set<String> face = new TreeSet<>();
    Set<String> names = new TreeSet<>();
    for (Method m : c.getDeclaredMethods()) {
      if (!Modifier.isPrivate(m.getModifiers())) {
        face.add(told(m));
        names.add(m.getName());
        Script.due("modifiers of " + m.getName(), m.getModifiers(), Modifier.PUBLIC);
      }
    }
    Script.due("the face", face, new TreeSet<>(Set.of(FACE)));
    for (Field f : c.getDeclaredFields()) {
      Script.due(f.getName() + " is private", Modifier.isPrivate(f.getModifiers()), true);
    }
    hasNoMethodOf(c, names);
    for (Class<?> inside : c.getDeclaredClasses()) {
      int modifiers = inside.getModifiers();
      Script.due(inside.getName(), Modifier.isStatic(modifiers) && !Modifier.isPublic(modifiers)
          && !Modifier.isProtected(modifiers), true);
      hasNoMethodOf(inside, names);
    }
    Script.finish();
  }

  private static void hasNoMethodOf(Class<?> c, Set<String> names) {
    for (Method m : c.getDeclaredMethods()) {
      boolean ofTheFace = Modifier.isPublic(m.getModifiers());
      Script.due(c.getName() + "." + m.getName() + " has a name of its own",
          ofTheFace || !names.contains(m.getName()), true);
    }
    for (Field f : c.getDeclaredFields()) {
      boolean changes = Modifier.isStatic(f.getModifiers()) && !Modifier.isFinal(f.getModifiers());
      Script.due(c.getName() + "." + f.getName() + " is static and changes", changes, false);
    }
  }

  private static String told(Method m) {
    StringBuilder text = new StringBuilder(m.getReturnType().getSimpleName() + " " + m.getName() + "(");
    for (Class<?> p : m.getParameterTypes()) {
      text.append(text.charAt(text.length() - 1) == '(' ? "" : ",").append(p.getSimpleName());
    }
    text.append(')');
    for (Class<?> e : m.getExceptionTypes()) {
      text.append(' ').append(e.getSimpleName());
    }
    return text.toString();
  }
}
