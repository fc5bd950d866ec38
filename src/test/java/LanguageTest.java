import java.lang.reflect.Constructor;
import java.lang.reflect.Executable;
import java.lang.reflect.Field;
import java.lang.reflect.Method;
import java.lang.reflect.Modifier;
import java.nio.file.Files;
import java.nio.file.Path;
import java.util.ArrayList;
import java.util.HashSet;
import java.util.List;
import java.util.Set;
import java.util.TreeSet;
import java.util.regex.Matcher;
import java.util.regex.Pattern;

/** The rules of ../shared/LANGUAGE.md that can be looked up in the source and in the compiled class. */
public final class LanguageTest {
  private static final int MOST_CLASSES = 12;
  private static final int MOST_FIELDS = 20;
  private static final int MOST_LINES = 60;
  private static final Set<String> LIBRARY = Set.of(
      "Math.max", "Math.min", "Math.abs", "Integer.bitCount", "Long.bitCount");
  private static final Set<String> THROWN = Set.of(
      "IllegalStateException", "IllegalArgumentException", "IndexOutOfBoundsException", "ArithmeticException",
      "UnsupportedOperationException", "NoSuchElementException", "RuntimeException");

  public static void main(String[] args) throws Exception {
    String whole = Files.readString(Path.of("src/main/java/Trellisworks.java"));
    Check.is("signs are 1 to 127", whole.chars().allMatch(c -> c >= 1 && c <= 127));
    String source = withoutComments(whole);
    words(source);
    exceptions(source);
    lengths(source);
    document(source);
    classes();
    face();
    Check.end();
  }

  private static String withoutComments(String source) {
    return source.replaceAll("(?s)/\\*.*?\\*/", "").replaceAll("//[^\n]*", "");
  }

  private static void words(String source) {
    List<String> imports = all(source, "(?m)^import (.*);");
    Check.same("imports", imports, List.of("java.util.NoSuchElementException"));
    String code = source.replaceAll("\"[^\"\n]*\"", "\"\"").replaceAll("'.'", "' '");
    for (String word : List.of("try", "catch", "finally", "synchronized", "assert", "switch", "goto", "package", "volatile", "native",
        "record", "enum", "interface", "String", "Object", "var", "lambda", "System", "Exact", "strictfp", "transient", "yield")) {
      Check.same("the word " + word, all(code, "\\b(" + word + ")\\b").size(), 0);
    }
    for (String sign : List.of("->", "::", "@")) Check.same("the sign " + sign, all(code, "(" + sign + ")").size(), 0);
    for (String call : all(code, "\\b((?:Math|Integer|Long|Short|Byte|Character|Boolean|Double|Float|Arrays|Objects|Thread|Runtime)\\.\\w+)")) {
      Check.is("the library has " + call, LIBRARY.contains(call));
    }
    // a loop without a bound would be a while with nothing but true, or a for without a condition
    Check.same("loops without an end", all(code, "(while *\\( *true|for *\\([^;]*; *;)").size(), 0);
  }

  private static void exceptions(String source) {
    for (String thrown : all(source, "\\bthrow (.*?);")) {
      Matcher m = Pattern.compile("new (\\w+)\\(\"[^\"]*\"\\)").matcher(thrown);
      Check.is("a throw of its own: " + thrown, m.matches() && THROWN.contains(m.group(1)));
    }
    Check.is("there are throws", all(source, "\\bthrow (.*?);").size() > 50);
  }

  /** Methods end with a brace as far in as they begin. */
  private static void lengths(String source) {
    String[] lines = source.split("\n");
    for (int i = 0; i < lines.length; i++) {
      Matcher m = Pattern.compile("^( {2}| {4})(?! |for|if|while|else)[\\w\\[\\]<> ]+\\(.*\\{$").matcher(lines[i]);
      if (!m.matches()) continue;
      int end = i;
      while (!lines[end].equals(m.group(1) + "}")) end++;
      Check.is("short: " + lines[i].trim(), end - i + 1 <= MOST_LINES);
    }
  }

  /** Each signature of the document stands in the source, word by word. */
  private static void document(String source) throws Exception {
    String doc = Files.readString(Path.of("../shared/DOC.md"));
    String face = doc.substring(doc.indexOf("public final class"), doc.indexOf("## Terms"));
    List<String> signatures = all(face, "(?m)^    (public .*);$");
    Check.same("signatures", signatures.size(), 45);
    for (String signature : signatures) Check.is("the face has " + signature, source.contains("  " + signature + " {"));
  }

  private static void classes() {
    List<Class<?>> classes = new ArrayList<>(List.of(Trellisworks.class.getDeclaredClasses()));
    Check.is("classes: " + classes.size(), classes.size() < MOST_CLASSES);
    for (Class<?> c : classes) {
      Check.is(c + " is not public", !Modifier.isPublic(c.getModifiers()) && !Modifier.isProtected(c.getModifiers()));
      Check.is(c + " is static", Modifier.isStatic(c.getModifiers()));
      Check.is(c + " is final or abstract", Modifier.isFinal(c.getModifiers()) || Modifier.isAbstract(c.getModifiers()));
    }
    classes.add(Trellisworks.class);
    Set<String> face = new TreeSet<>();
    for (Method m : Trellisworks.class.getDeclaredMethods()) if (Modifier.isPublic(m.getModifiers())) face.add(m.getName());
    for (Class<?> c : classes) {
      int own = 0;
      for (Field f : c.getDeclaredFields()) {
        if (f.isSynthetic()) continue;
        boolean isStatic = Modifier.isStatic(f.getModifiers());
        if (!isStatic) own++;
        else Check.is(f + " is a constant", Modifier.isFinal(f.getModifiers()) && Set.of(int.class, long.class, char.class, boolean.class).contains(f.getType()));
      }
      Check.is(c + " has few fields: " + own, own <= MOST_FIELDS);
      List<Executable> methods = new ArrayList<>(List.of(c.getDeclaredMethods()));
      methods.addAll(List.of(c.getDeclaredConstructors()));
      for (Executable m : methods) {
        if (m.isSynthetic()) continue;
        Check.is(m + " has few parameters", m.getParameterCount() <= 7);
        if (m instanceof Method && !Modifier.isPublic(m.getModifiers())) Check.is(m + " has no name of the face", !face.contains(m.getName()));
        Check.is(m + " is none of an object's own", !Set.of("equals", "hashCode", "toString", "finalize", "clone").contains(m.getName()));
      }
    }
  }

  private static void face() {
    int methods = 0;
    Set<String> names = new HashSet<>();
    for (Method m : Trellisworks.class.getDeclaredMethods()) {
      if (m.isSynthetic()) continue;
      Check.is(m + " is public or private", Modifier.isPublic(m.getModifiers()) || Modifier.isPrivate(m.getModifiers()));
      if (!Modifier.isPublic(m.getModifiers())) continue;
      methods++;
      names.add(m.getName());
    }
    Check.same("public methods", methods, 44);
    Check.same("of unlike names", names.size(), 44);
    for (Field f : Trellisworks.class.getDeclaredFields()) Check.is(f + " is private", Modifier.isPrivate(f.getModifiers()));
    Constructor<?>[] made = Trellisworks.class.getDeclaredConstructors();
    Check.is("one public constructor", made.length == 1 && Modifier.isPublic(made[0].getModifiers()) && made[0].getParameterCount() == 0);
    Check.is("final", Modifier.isFinal(Trellisworks.class.getModifiers()));
  }

  private static List<String> all(String text, String pattern) {
    List<String> out = new ArrayList<>();
    Matcher m = Pattern.compile(pattern).matcher(text);
    while (m.find()) out.add(m.group(1));
    return out;
  }
}
