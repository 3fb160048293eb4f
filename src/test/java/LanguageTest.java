import java.lang.reflect.Constructor;
import java.lang.reflect.Executable;
import java.lang.reflect.Field;
import java.lang.reflect.Method;
import java.lang.reflect.Modifier;
import java.util.ArrayList;
import java.util.List;
import java.util.Set;
import java.util.stream.Collectors;
import java.util.stream.Stream;

/** What reflection can see of rules 1, 5, 11 and 12 of LANGUAGE.md; FaceTest has the face. */
public final class LanguageTest {
  private static final int MOST_CLASSES = 12;
  private static final int MOST_FIELDS = 20;
  private static final int MOST_PARAMETERS = 7;

  private static final Due due = new Due("LanguageTest");

  public static void main(String[] args) {
    List<Class<?>> inside = List.of(RunRows.class.getDeclaredClasses());
    List<Class<?>> all = new ArrayList<>(inside);
    all.add(RunRows.class);
    due.is("rule 11: not too many classes", all.size() <= MOST_CLASSES, true);
    for (Class<?> c : inside) {
      isHidden(c);
    }
    for (Class<?> c : all) {
      bearsNoPublicName(c);
      staticFieldsAreFinal(c);
      isSmall(c);
      constructorsTakeNoObject(c);
    }
    due.end();
  }

  // ---- Rule 1: "the classes inside it, which are private or package-visible and static"

  private static void isHidden(Class<?> c) {
    int m = c.getModifiers();
    due.is("rule 1: " + c + " is hidden", Modifier.isPublic(m) || Modifier.isProtected(m), false);
    due.is("rule 1: " + c + " is static", Modifier.isStatic(m), true);
  }

  // ---- Rule 1: "No private method bears the name of a public one"

  private static void bearsNoPublicName(Class<?> c) {
    Set<String> names = Stream.of(RunRows.class.getDeclaredMethods())
        .filter(m -> Modifier.isPublic(m.getModifiers()))
        .map(Method::getName)
        .collect(Collectors.toSet());
    for (Method m : c.getDeclaredMethods()) {
      boolean isTheFace = c == RunRows.class && Modifier.isPublic(m.getModifiers());
      due.is("rule 1: " + m + " bears a public name", !isTheFace && names.contains(m.getName()), false);
    }
  }

  // ---- Rule 5: "Static fields are final"

  private static void staticFieldsAreFinal(Class<?> c) {
    for (Field f : c.getDeclaredFields()) {
      int m = f.getModifiers();
      due.is("rule 5: " + f + " can be changed", Modifier.isStatic(m) && !Modifier.isFinal(m), false);
    }
  }

  // ---- Rule 11: "at most seven parameters .. a class some twenty fields beside its constants"

  private static void isSmall(Class<?> c) {
    long fields = Stream.of(c.getDeclaredFields()).filter(f -> !Modifier.isStatic(f.getModifiers())).count();
    due.is("rule 11: " + c + " has few fields", fields <= MOST_FIELDS, true);
    for (Executable e : c.getDeclaredMethods()) {
      due.is("rule 11: " + e + " has few parameters", e.getParameterCount() <= MOST_PARAMETERS, true);
    }
  }

  // ---- Rule 12: "A constructor .. hands out nothing of the object that it makes": here none can be handed anything

  private static void constructorsTakeNoObject(Class<?> c) {
    for (Constructor<?> made : c.getDeclaredConstructors()) {
      due.is("rule 12: " + made + " takes numbers alone",
          Stream.of(made.getParameterTypes()).allMatch(Class::isPrimitive), true);
    }
  }
}
