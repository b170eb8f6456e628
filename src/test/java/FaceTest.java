import java.lang.reflect.Constructor;
import java.lang.reflect.Field;
import java.lang.reflect.Method;
import java.lang.reflect.Modifier;
import java.util.Arrays;
import java.util.Set;
import java.util.TreeSet;
import java.util.stream.Collectors;

/** The public face: just what the document has, and nothing beside it that another class could see. */
final class FaceTest {
  private static final String[] FACE = {
    "int put(boolean, int, int, int) throws IndexOutOfBoundsException",
    "int copy(boolean, int, int) throws IndexOutOfBoundsException",
    "int widen(int, int, boolean) throws IndexOutOfBoundsException",
    "int narrow(int, int, boolean) throws IndexOutOfBoundsException",
    "int digit(boolean, int, int) throws IndexOutOfBoundsException",
    "int set(boolean, int, int, boolean) throws IndexOutOfBoundsException",
    "int ofWord(boolean, int, int) throws IndexOutOfBoundsException, IllegalArgumentException",
    "int mix(boolean, int, int, int) throws IndexOutOfBoundsException, IllegalArgumentException",
    "int complement(boolean, int) throws IndexOutOfBoundsException",
    "int rank(boolean, int, int) throws IndexOutOfBoundsException",
    "int select(boolean, int, int) throws IndexOutOfBoundsException",
    "int distance(boolean, int, int) throws IndexOutOfBoundsException",
    "boolean areSo(boolean, int, int, int) throws IndexOutOfBoundsException, IllegalArgumentException",
    "int only(boolean, int, boolean) throws IndexOutOfBoundsException",
    "int nextSet(boolean, int) throws IndexOutOfBoundsException",
    "int reverse(boolean, int) throws IndexOutOfBoundsException",
    "int reverseBytes(boolean, int) throws IndexOutOfBoundsException",
    "int rotate(boolean, int, int) throws IndexOutOfBoundsException",
    "int turnsTo(boolean, int, int) throws IndexOutOfBoundsException",
    "int shift(boolean, int, int, int) throws IndexOutOfBoundsException, IllegalArgumentException",
    "int swap(boolean, int, int) throws IndexOutOfBoundsException, IllegalArgumentException",
    "int shuffle(boolean, int, boolean) throws IndexOutOfBoundsException",
    "int weave(int, int, int) throws IndexOutOfBoundsException",
    "int unweave(int, int, boolean) throws IndexOutOfBoundsException",
    "int gray(boolean, int, boolean) throws IndexOutOfBoundsException",
    "int step(boolean, int) throws IndexOutOfBoundsException",
    "int plus(boolean, int, int, boolean) throws IndexOutOfBoundsException",
    "int negate(boolean, int) throws IndexOutOfBoundsException",
    "int times(boolean, int, int, boolean) throws IndexOutOfBoundsException",
    "int divide(boolean, int, int, boolean) throws IndexOutOfBoundsException",
    "int by(boolean, int, int) throws IndexOutOfBoundsException, IllegalArgumentException",
    "int inverse(boolean, int) throws IndexOutOfBoundsException",
    "int exact(boolean, int, int) throws IndexOutOfBoundsException",
    "int extreme(boolean, int, int, boolean) throws IndexOutOfBoundsException",
    "int compare(boolean, int, int, boolean) throws IndexOutOfBoundsException",
    "int polyTimes(boolean, int, int) throws IndexOutOfBoundsException",
    "int wholeTimes(int, int, int) throws IndexOutOfBoundsException",
    "int polyDivide(boolean, int, int, boolean) throws IndexOutOfBoundsException",
    "int polyGcd(boolean, int, int) throws IndexOutOfBoundsException",
    "int polyInverse(boolean, int) throws IndexOutOfBoundsException",
    "int type(int, int, int, int, int, int) throws IllegalArgumentException, IllegalStateException",
    "int noText()",
    "String hand()",
    "String text(boolean, int, int) throws IndexOutOfBoundsException, IllegalArgumentException",
    "String textIn(boolean, int, int) throws IndexOutOfBoundsException, IllegalArgumentException",
    "int carry(boolean, int, int) throws IndexOutOfBoundsException, IllegalArgumentException",
    "int read(boolean, int, int) throws IndexOutOfBoundsException, IllegalArgumentException",
    "int readNumber(boolean, int) throws IndexOutOfBoundsException",
    "int decode(boolean, int) throws IndexOutOfBoundsException",
    "int house(int) throws IllegalArgumentException",
    "int knock()",
    "boolean isSound()",
    "long digest()"
  };

  private static final Check check = new Check();

  public static void main(String[] args) {
    theClass();
    theMethods();
    noOtherMembers();
    namesOfTheFaceStandAlone();
    check.end();
  }

  private static void theClass() {
    check.due("the class", Modifier.toString(Bitwords.class.getModifiers()), "public final");
    Constructor<?>[] constructors = Bitwords.class.getDeclaredConstructors();
    check.due("how many constructors", constructors.length, 1);
    check.due("the constructor", constructors[0].toString(), "public Bitwords()");
  }

  private static void theMethods() {
    Set<String> got = new TreeSet<>();
    for (Method method : Bitwords.class.getDeclaredMethods()) {
      if (Modifier.isPublic(method.getModifiers())) {
        check.due(method.getName() + " is of the object", Modifier.isStatic(method.getModifiers()), false);
        got.add(lineOf(method));
      }
    }
    check.due("the methods", got, new TreeSet<>(Arrays.asList(FACE)));
  }

  private static String lineOf(Method method) {
    String throwing = namesOf(method.getExceptionTypes());
    return method.getReturnType().getSimpleName() + " " + method.getName() + "(" + namesOf(method.getParameterTypes())
        + ")" + (throwing.isEmpty() ? "" : " throws " + throwing);
  }

  private static String namesOf(Class<?>[] types) {
    return Arrays.stream(types).map(Class::getSimpleName).collect(Collectors.joining(", "));
  }

  private static void noOtherMembers() {
    for (Method method : Bitwords.class.getDeclaredMethods()) {
      int how = method.getModifiers();
      check.due(method + " is public or private", Modifier.isPublic(how) || Modifier.isPrivate(how), true);
    }
    for (Field field : Bitwords.class.getDeclaredFields()) {
      check.due(field + " is private", Modifier.isPrivate(field.getModifiers()), true);
    }
    for (Class<?> inside : Bitwords.class.getDeclaredClasses()) {
      check.due(inside + " is not public", Modifier.isPublic(inside.getModifiers()), false);
      check.due(inside + " is static", Modifier.isStatic(inside.getModifiers()), true);
      for (Field field : inside.getDeclaredFields()) {
        int how = field.getModifiers();
        check.due(field + " is final, if static", Modifier.isFinal(how) || !Modifier.isStatic(how), true);
      }
    }
  }

  /** No private method, in the class or inside it, bears the name of a public one. */
  private static void namesOfTheFaceStandAlone() {
    Set<String> names = new TreeSet<>();
    for (String line : FACE) {
      names.add(line.substring(line.indexOf(' ') + 1, line.indexOf('(')));
    }
    check.due("how many names", names.size(), FACE.length);
    for (Method method : Bitwords.class.getDeclaredMethods()) {
      boolean isPrivate = Modifier.isPrivate(method.getModifiers());
      check.due(method + " bears a name of its own", isPrivate && names.contains(method.getName()), false);
    }
    for (Class<?> inside : Bitwords.class.getDeclaredClasses()) {
      for (Method method : inside.getDeclaredMethods()) {
        check.due(method + " bears a name of its own", names.contains(method.getName()), false);
      }
    }
  }
}
