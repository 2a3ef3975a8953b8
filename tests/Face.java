import java.io.IOException;
import java.lang.reflect.Constructor;
import java.lang.reflect.Field;
import java.lang.reflect.Method;
import java.lang.reflect.Modifier;
import java.nio.file.Files;
import java.nio.file.Path;
import java.util.TreeSet;
import java.util.regex.Matcher;
import java.util.regex.Pattern;

/** The public face is the one that the document prints, and nothing else can be seen from outside. */
public final class Face {
  public static void main(String[] args) throws IOException {
    String doc = Files.readString(Path.of("../shared/DOC.md"));
    String face = doc.substring(doc.indexOf("public final class Cellweave {"), doc.indexOf("## Description"));
    TreeSet<String> due = new TreeSet<>();
    Matcher m = Pattern.compile("public (\\w+) (\\w+)\\(([^)]*)\\)(?: throws ([\\w, ]+))?;").matcher(face);
    while (m.find()) {
      String types = m.group(3).replaceAll("(\\w+) \\w+", "$1");
      due.add(m.group(1) + " " + m.group(2) + "(" + types + ")" + (m.group(4) == null ? "" : m.group(4)));
    }
    TreeSet<String> got = new TreeSet<>();
    TreeSet<String> hidden = new TreeSet<>();
    for (Method method : Cellweave.class.getDeclaredMethods()) {
      if (Modifier.isPublic(method.getModifiers())) {
        got.add(told(method));
      } else {
        hidden.add(method.getName());
        demand(Modifier.isPrivate(method.getModifiers()), method + " is not private");
      }
    }
    demand(got.equals(due), "the face is " + got + ", due is " + due);
    for (String line : got) {
      String name = line.substring(line.indexOf(' ') + 1, line.indexOf('('));
      demand(!hidden.contains(name), name + " is a private method's name, too");
      for (Class<?> inner : Cellweave.class.getDeclaredClasses()) {
        for (Method method : inner.getDeclaredMethods()) {
          demand(!method.getName().equals(name), inner + " has a " + name);
        }
      }
    }
    for (Field field : Cellweave.class.getDeclaredFields()) {
      demand(Modifier.isPrivate(field.getModifiers()), field + " is not private");
    }
    for (Constructor<?> made : Cellweave.class.getDeclaredConstructors()) {
      demand(Modifier.isPublic(made.getModifiers()) && made.getParameterCount() == 0, "" + made);
    }
    demand(Modifier.isFinal(Cellweave.class.getModifiers()), "the class is not final");
    System.exit(wrong ? 1 : 0);
  }

  private static boolean wrong = false;

  private static void demand(boolean is, String otherwise) {
    if (!is) {
      wrong = true;
      System.out.println(otherwise);
    }
  }

  private static String told(Method method) {
    StringBuilder types = new StringBuilder();
    for (Class<?> type : method.getParameterTypes()) {
      types.append(types.length() > 0 ? ", " : "").append(type.getSimpleName());
    }
    StringBuilder thrown = new StringBuilder();
    for (Class<?> type : method.getExceptionTypes()) {
      thrown.append(thrown.length() > 0 ? ", " : "").append(type.getSimpleName());
    }
    return method.getReturnType().getSimpleName() + " " + method.getName() + "(" + types + ")" + thrown;
  }
}
