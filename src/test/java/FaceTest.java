import java.lang.reflect.Constructor;
import java.lang.reflect.Field;
import java.lang.reflect.Method;
import java.lang.reflect.Modifier;
import java.util.Arrays;
import java.util.TreeSet;

/** The public face, as the document has it and no more, and the rules of the language on members. */
public final class FaceTest {
  private static final String[] FACE = {
    "grid(int,int)", "cell(int,int,int,int,int)", "weather(int,int,int,int)", "seed(int)", "light(int,int)", "clear()",
    "step(int)", "about(int,int)", "many(int)", "told(int)", "sky(int,int)", "front(int)", "crew(int)",
    "plan(int,int,int)", "halt(int)", "ofCrew(int,int)", "strips(int)", "balanced(boolean)", "strip(int,int)",
    "keep(int)", "back(int)", "differs(int)", "ahead(int,int)"};

  public static void main(String[] args) throws Exception {
    Due due = new Due("FaceTest");
    constants(due);
    methods(due);
    members(due);
    due.end();
  }

  private static void constants(Due due) {
    due.is("NONE", HeathFire.NONE, -6);
    due.is("UNKNOWN", HeathFire.UNKNOWN, -1);
    due.is("OUTSIDE", HeathFire.OUTSIDE, -2);
    due.is("STATE", HeathFire.STATE, -3);
    due.is("FULL", HeathFire.FULL, -4);
    due.is("NO", HeathFire.NO, -5);
  }

  private static void methods(Due due) {
    TreeSet<String> want = new TreeSet<>(Arrays.asList(FACE));
    TreeSet<String> got = new TreeSet<>();
    TreeSet<String> publicNames = new TreeSet<>();
    for (Method m : HeathFire.class.getDeclaredMethods()) {
      if (!Modifier.isPrivate(m.getModifiers())) {
        due.is(m + " is public and answers an int", mark(publicInt(m)), 1);
        got.add(m.getName() + Arrays.toString(m.getParameterTypes()).replace("[", "(").replace("]", ")").replace(" ", ""));
        publicNames.add(m.getName());
      }
    }
    due.is("the methods are " + want + " not " + got, mark(got.equals(want)), 1);
    for (Method m : HeathFire.class.getDeclaredMethods()) {
      boolean shadows = Modifier.isPrivate(m.getModifiers()) && publicNames.contains(m.getName());
      due.is(m + " bears the name of a public one", mark(shadows), 0);
    }
  }

  private static void members(Due due) {
    due.is("public and final", HeathFire.class.getModifiers(), Modifier.PUBLIC | Modifier.FINAL);
    Constructor<?>[] made = HeathFire.class.getDeclaredConstructors();
    due.is("constructors", made.length, 1);
    due.is("public constructor without arguments", mark(Modifier.isPublic(made[0].getModifiers())
        && made[0].getParameterCount() == 0), 1);
    int shown = 0;
    for (Field f : HeathFire.class.getDeclaredFields()) {
      shown += mark(!Modifier.isPrivate(f.getModifiers()));
      due.is(f + " is final, if static", mark(Modifier.isStatic(f.getModifiers())
          && !Modifier.isFinal(f.getModifiers())), 0);
    }
    due.is("fields that others see", shown, 6);
    for (Class<?> inside : HeathFire.class.getDeclaredClasses()) {
      int m = inside.getModifiers();
      due.is(inside + " is static and not shown", mark(Modifier.isStatic(m) && !Modifier.isPublic(m)
          && !Modifier.isProtected(m)), 1);
    }
  }

  private static boolean publicInt(Method m) {
    return Modifier.isPublic(m.getModifiers()) && !Modifier.isStatic(m.getModifiers()) && m.getReturnType() == int.class;
  }

  private static int mark(boolean holds) {
    return holds ? 1 : 0;
  }
}
