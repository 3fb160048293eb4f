import java.lang.reflect.Constructor;
import java.lang.reflect.Field;
import java.lang.reflect.Method;
import java.lang.reflect.Modifier;
import java.util.Arrays;
import java.util.TreeSet;

/** The public face is the document's: no member is missing, and none more can be seen. */
public final class FaceTest {
  public static void main(String[] args) {
    Due due = new Due("FaceTest");
    due.is("the class", Modifier.toString(RunRows.class.getModifiers()), "public final");
    due.is("the members that can be seen", seen(), new TreeSet<>(Arrays.asList(
        "public static final int RunRows.NONE",
        "public RunRows()",
        "public boolean RunRows.feed(int,int,int,int,int)",
        "public boolean RunRows.end(int)",
        "public boolean RunRows.width(int)",
        "public boolean RunRows.add(int,int)",
        "public void RunRows.clear()",
        "public int RunRows.encode()",
        "public int RunRows.decode(int)",
        "public boolean RunRows.turn()",
        "public int RunRows.size()",
        "public int RunRows.value(int)",
        "public int RunRows.output(int)")));
    due.is("NONE", RunRows.NONE, -1);
    due.end();
  }

  private static TreeSet<String> seen() {
    TreeSet<String> seen = new TreeSet<>();
    for (Field f : RunRows.class.getDeclaredFields()) {
      if (!Modifier.isPrivate(f.getModifiers())) seen.add(f.toString());
    }
    for (Constructor<?> c : RunRows.class.getDeclaredConstructors()) {
      if (!Modifier.isPrivate(c.getModifiers())) seen.add(c.toString());
    }
    for (Method m : RunRows.class.getDeclaredMethods()) {
      if (!Modifier.isPrivate(m.getModifiers())) seen.add(m.toString());
    }
    return seen;
  }
}
