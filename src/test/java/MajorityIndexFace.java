import java.io.IOException;
import java.lang.reflect.Constructor;
import java.lang.reflect.Field;
import java.lang.reflect.Method;
import java.lang.reflect.Modifier;
import java.nio.file.Files;
import java.nio.file.Path;
import java.util.HashSet;
import java.util.Set;
import java.util.TreeMap;
import java.util.TreeSet;
import java.util.regex.Matcher;
import java.util.regex.Pattern;

/** The class has the document's face and no other, and its file has none of the words that LANGUAGE.md rules out. */
public final class MajorityIndexFace {
  private static final String SOURCE = "src/main/java/MajorityIndex.java";
  private static final String DOC = "../shared/DOC.md";
  private static int wrong = 0;

  public static void main(String[] args) throws IOException {
    methodsAsDocumented();
    onlyThatFace();
    classesInside(MajorityIndex.class);
    words(Files.readString(Path.of(SOURCE)));
    System.out.println(wrong == 0 ? "the face is as due" : wrong + " faults of the face");
    if (wrong != 0) {
      System.exit(1);
    }
  }

  private static void fault(String text) {
    wrong++;
    System.out.println(text);
  }

  private static void methodsAsDocumented() throws IOException {
    TreeMap<String, String> due = new TreeMap<>();
    Pattern line = Pattern.compile("    public int (\\w+)\\(([^)]*)\\)( throws NoSuchElementException)?;");
    Matcher found = line.matcher(Files.readString(Path.of(DOC)));
    while (found.find()) {
      int many = found.group(2).isEmpty() ? 0 : found.group(2).split(",").length;
      due.put(found.group(1), many + (found.group(3) == null ? "" : " throws"));
    }
    TreeMap<String, String> is = new TreeMap<>();
    for (Method m : MajorityIndex.class.getDeclaredMethods()) {
      if (Modifier.isPublic(m.getModifiers())) {
        is.put(m.getName(), m.getParameterCount() + (m.getExceptionTypes().length == 0 ? "" : " throws"));
        for (Class<?> type : m.getParameterTypes()) {
          if (type != int.class) {
            fault(m.getName() + " takes " + type);
          }
        }
        if (m.getReturnType() != int.class || Modifier.isStatic(m.getModifiers())) {
          fault(m.getName() + " is no int method of an object");
        }
      }
    }
    if (due.size() != 44 || !due.equals(is)) {
      fault("methods are " + is + ", due are " + due);
    }
  }

  private static void onlyThatFace() {
    Class<?> c = MajorityIndex.class;
    if (!Modifier.isFinal(c.getModifiers()) || !Modifier.isPublic(c.getModifiers())) {
      fault("the class is not public and final");
    }
    Set<String> open = new TreeSet<>();
    for (Field f : c.getDeclaredFields()) {
      if (!Modifier.isPrivate(f.getModifiers())) {
        open.add(f.getName());
      }
      if (Modifier.isStatic(f.getModifiers()) && !Modifier.isFinal(f.getModifiers())) {
        fault("static field " + f.getName() + " is not final");
      }
    }
    if (!open.equals(Set.of("NONE", "NO_VALUE"))) {
      fault("fields that are not private: " + open);
    }
    Set<String> names = new HashSet<>();
    for (Method m : c.getDeclaredMethods()) {
      if (!Modifier.isPublic(m.getModifiers()) && !Modifier.isPrivate(m.getModifiers())) {
        fault("method " + m.getName() + " is neither public nor private");
      }
      if (!names.add(m.getName())) {
        fault("two methods are named " + m.getName());
      }
      if (m.getParameterCount() > 7) {
        fault("method " + m.getName() + " has too many parameters");
      }
    }
    Constructor<?>[] made = c.getDeclaredConstructors();
    if (made.length != 1 || made[0].getParameterCount() != 0 || !Modifier.isPublic(made[0].getModifiers())) {
      fault("the constructor is not as due");
    }
  }

  private static void classesInside(Class<?> c) {
    Set<String> face = new HashSet<>();
    for (Method m : c.getDeclaredMethods()) {
      if (Modifier.isPublic(m.getModifiers())) {
        face.add(m.getName());
      }
    }
    for (Class<?> inside : c.getDeclaredClasses()) {
      int is = inside.getModifiers();
      if (!Modifier.isStatic(is) || Modifier.isPublic(is) || Modifier.isProtected(is)) {
        fault(inside + " is not a static class that is private or package-visible");
      }
      for (Method m : inside.getDeclaredMethods()) {
        if (face.contains(m.getName())) {
          fault(inside + " has a method named as one of the face: " + m.getName());
        }
      }
    }
  }

  private static void words(String source) {
    String code = source.replaceAll("(?s)/\\*.*?\\*/", " ").replaceAll("//[^\n]*", " ");
    String[] out = {"->", "::", "Exact", "\\bfinally\\b", "\\bsynchronized\\b", "\\bassert\\b", "\\bcatch\\b",
      "\\btry\\b", "\\bSystem\\.(?!arraycopy)", "\\bRandom\\b", "\\bThread\\b", "\\bpackage\\b", "\\bhashCode\\b",
      "\\bequals\\b", "\\btoString\\b", "\\bdouble\\b", "\\bfloat\\b", "static \\{"};
    for (String word : out) {
      if (Pattern.compile(word).matcher(code).find()) {
        fault("the source has " + word);
      }
    }
    Matcher thrown = Pattern.compile("throw (?!new NoSuchElementException\\(\\);)").matcher(code);
    if (thrown.find()) {
      fault("the source throws something that the document does not name");
    }
    Matcher brought = Pattern.compile("import ([^;]+);").matcher(code);
    while (brought.find()) {
      if (!Set.of("java.util.Arrays", "java.util.NoSuchElementException").contains(brought.group(1))) {
        fault("the source imports " + brought.group(1));
      }
    }
  }
}
