import java.lang.reflect.Constructor;
import java.lang.reflect.Field;
import java.lang.reflect.Method;
import java.lang.reflect.Modifier;
import java.util.Arrays;
import java.util.TreeSet;

/** The class shows the face of the document and nothing else. */
final class FaceTest {
  private static final String[] FACE = {
    "int addTable(int, int, int) throws IllegalArgumentException, IllegalStateException",
    "int addPusher(int, int) throws IllegalArgumentException, IllegalStateException",
    "int bend(int, int, int, int) throws IndexOutOfBoundsException, IllegalArgumentException",
    "int setCup(int, int, int) throws IndexOutOfBoundsException, IllegalArgumentException",
    "int machine(int, int) throws IndexOutOfBoundsException",
    "int ends(int, int, int) throws IndexOutOfBoundsException, IllegalArgumentException",
    "int bestTilt(int, int) throws IndexOutOfBoundsException, IllegalArgumentException",
    "int dead(int) throws IndexOutOfBoundsException, IllegalArgumentException",
    "int ledge(int, int) throws IndexOutOfBoundsException, IllegalArgumentException",
    "int come(int, int) throws IllegalArgumentException, IllegalStateException",
    "int go(int, int) throws IndexOutOfBoundsException",
    "int play(int, int, int, int) throws IndexOutOfBoundsException, IllegalArgumentException, IllegalStateException",
    "int player(int, int) throws IndexOutOfBoundsException",
    "int setSkill(int) throws IllegalArgumentException",
    "int call(int) throws IndexOutOfBoundsException, IllegalStateException",
    "int repair(int) throws IndexOutOfBoundsException",
    "int pass(int) throws IllegalArgumentException",
    "int count(int) throws IndexOutOfBoundsException",
    "int foresee(int, int) throws IllegalArgumentException, IndexOutOfBoundsException",
    "int advise(int) throws IllegalArgumentException",
    "double back()",
    "long digest()",
  };

  public static void main(String[] args) {
    Check check = new Check("FaceTest");
    Class<PennyArcade> face = PennyArcade.class;
    check.is("public and final", face.getModifiers(), Modifier.PUBLIC | Modifier.FINAL);

    TreeSet<String> shown = new TreeSet<>();
    TreeSet<String> names = new TreeSet<>();
    for (Method method : face.getDeclaredMethods()) {
      if (!Modifier.isPrivate(method.getModifiers())) {
        shown.add(faceOf(method));
        names.add(method.getName());
      }
    }
    check.same("the face", shown, new TreeSet<>(Arrays.asList(FACE)));
    for (Method method : face.getDeclaredMethods()) {
      if (Modifier.isPrivate(method.getModifiers())) {
        check.same("a private method named " + method.getName(), names.contains(method.getName()), false);
      }
    }

    for (Field field : face.getDeclaredFields()) {
      check.same(field.getName() + " is private", Modifier.isPrivate(field.getModifiers()), true);
    }
    Constructor<?>[] constructors = face.getDeclaredConstructors();
    check.is("constructors", constructors.length, 1);
    check.is("parameters of the constructor", constructors[0].getParameterCount(), 0);
    check.is("the constructor is public", constructors[0].getModifiers(), Modifier.PUBLIC);
    for (Class<?> inside : face.getDeclaredClasses()) {
      int modifiers = inside.getModifiers();
      check.same(inside.getName() + " is hidden", Modifier.isPublic(modifiers) || Modifier.isProtected(modifiers), false);
    }
    check.finish();
  }

  private static String faceOf(Method method) {
    StringBuilder text = new StringBuilder();
    text.append(method.getReturnType().getSimpleName()).append(' ').append(method.getName());
    text.append(namesOf(method.getParameterTypes(), "(", ")"));
    if (method.getExceptionTypes().length > 0) {
      text.append(namesOf(method.getExceptionTypes(), " throws ", ""));
    }
    return text.toString();
  }

  private static String namesOf(Class<?>[] types, String before, String behind) {
    StringBuilder text = new StringBuilder(before);
    for (int i = 0; i < types.length; i++) {
      text.append(i == 0 ? "" : ", ").append(types[i].getSimpleName());
    }
    return text.append(behind).toString();
  }
}
