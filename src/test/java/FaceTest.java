import java.lang.reflect.Constructor;
import java.lang.reflect.Field;
import java.lang.reflect.Method;
import java.lang.reflect.Modifier;
import java.nio.file.Files;
import java.nio.file.Path;
import java.util.ArrayList;
import java.util.Set;
import java.util.TreeSet;

/** The public face, as the document's section of that name has it, and nothing else that can be seen. */
public final class FaceTest {
  private static Set<String> faceOfDocument() throws Exception {
    String doc = Files.readString(Path.of("../shared/DOC.md"));
    String face = doc.substring(doc.indexOf("public final class PromiseWeb {"));
    face = face.substring(face.indexOf('{') + 1, face.indexOf("\n}"));
    Set<String> rows = new TreeSet<>();
    for (String row : face.split(";")) {
      String one = row.trim().replaceAll("(\\w+) \\w+(?=[,)])", "$1");
      if (!one.isEmpty()) rows.add(one);
    }
    return rows;
  }

  private static String types(Class<?>[] classes) {
    ArrayList<String> names = new ArrayList<>();
    for (Class<?> c : classes) names.add(c.getSimpleName());
    return "(" + String.join(", ", names) + ")";
  }

  private static Set<String> faceOfClass(Check check) throws Exception {
    Set<String> rows = new TreeSet<>();
    for (Method m : PromiseWeb.class.getDeclaredMethods()) {
      if (Modifier.isPrivate(m.getModifiers())) continue;
      String thrown = m.getExceptionTypes().length == 0 ? "" : " throws " + m.getExceptionTypes()[0].getSimpleName();
      rows.add(Modifier.toString(m.getModifiers()) + " " + m.getReturnType().getSimpleName() + " " + m.getName()
          + types(m.getParameterTypes()) + thrown);
    }
    for (Constructor<?> c : PromiseWeb.class.getDeclaredConstructors())
      rows.add(Modifier.toString(c.getModifiers()) + " PromiseWeb" + types(c.getParameterTypes()));
    for (Field f : PromiseWeb.class.getDeclaredFields())
      if (!Modifier.isPrivate(f.getModifiers()))
        rows.add(Modifier.toString(f.getModifiers()) + " " + f.getType().getSimpleName() + " " + f.getName() + " = " + f.get(null));
    for (Class<?> c : PromiseWeb.class.getDeclaredClasses()) {
      check.due(c + " is static", Modifier.isStatic(c.getModifiers()), true);
      check.due(c + " is private", Modifier.isPrivate(c.getModifiers()), true);
    }
    check.due("public and final", PromiseWeb.class.getModifiers(), Modifier.PUBLIC | Modifier.FINAL);
    return rows;
  }

  public static void main(String[] args) throws Exception {
    Check check = new Check("FaceTest");
    Set<String> want = faceOfDocument();
    Set<String> got = faceOfClass(check);
    for (String row : want) check.due("the document's " + row, got.contains(row), true);
    for (String row : got) check.due("the class's " + row, want.contains(row), true);
    check.due("57 promises, of which one is the constructor, and a constant", want.size(), 58);
    check.finish();
  }
}
