import java.lang.reflect.Constructor;
import java.lang.reflect.Field;
import java.lang.reflect.Method;
import java.lang.reflect.Modifier;
import java.nio.file.Files;
import java.nio.file.Path;
import java.util.ArrayList;
import java.util.Arrays;
import java.util.List;
import java.util.Map;
import java.util.Set;
import java.util.TreeMap;
import java.util.TreeSet;
import java.util.regex.Matcher;
import java.util.regex.Pattern;

/**
 * The face that the document gives, and what of LANGUAGE.md can be seen of the class, of its text
 * and of what the compiler made of it.
 */
public final class LanguageTest {
  private static final Path PROGRAM = Path.of("src/main/java/HedgesAndDitches.java");
  private static final Path DOC = Path.of("../shared/DOC.md");
  private static final String[] BANNED = {
    "\\b(throw|throws|try|catch|synchronized|assert|import|package|instanceof|float|double)\\b",
    "->", "::", "@", "\\bequals\\b", "\\bhashCode\\b", "\\btoString\\b", "Exact\\b", "\\?\\s*>"
  };
  private static final int CLASSES_AT_MOST = 12;
  private static final int FIELDS_AT_MOST = 20;
  private static final int LINES_AT_MOST = 60;
  private static final int DEPTH_AT_MOST = 8;

  /** Of what rule 4 lists, what the program has a use for. */
  private static final Set<String> LIBRARY = Set.of(
      "java.lang.Object.<init>", "java.lang.String.length", "java.lang.String.charAt", "java.lang.Math.min",
      "java.lang.Math.max", "java.lang.Integer.bitCount", "java.lang.Long.bitCount", "java.lang.System.arraycopy");

  /** Instructions that no rule allows: invokedynamic, athrow, checkcast, instanceof, monitors. */
  private static final Set<Integer> BANNED_INSTRUCTIONS = Set.of(186, 191, 192, 193, 194, 195);

  /** Instructions that make an object or an array. */
  private static final Set<Integer> MAKING = Set.of(187, 188, 189, 197);

  private static int wrong = 0;

  private static void wrong(String what) {
    wrong++;
    System.out.println(what);
  }

  public static void main(String[] args) throws Exception {
    Class<?> c = HedgesAndDitches.class;
    if (!Modifier.isPublic(c.getModifiers()) || !Modifier.isFinal(c.getModifiers())) {
      wrong("the class is not public and final");
    }
    Set<String> asked = askedFace();
    Set<String> names = faceNames(asked);
    if (!asked.equals(face(c))) {
      wrong("the face is " + face(c) + ", asked is " + asked);
    }
    checkHidden(c);
    checkInside(c, names);
    checkText();
    checkLengths();
    checkBodies(c);
    System.out.println(wrong == 0 ? "the face and the text are as asked" : wrong + " breaches");
    if (wrong != 0) {
      System.exit(1);
    }
  }

  private static Set<String> askedFace() throws Exception {
    Set<String> found = new TreeSet<>();
    Matcher m = Pattern.compile("^    public (int|long) (\\w+)\\((.*)\\);$", Pattern.MULTILINE).matcher(Files.readString(DOC));
    while (m.find()) {
      found.add(m.group(1) + " " + m.group(2) + "(" + m.group(3).replaceAll(" \\w+(, |$)", "$1") + ")");
    }
    return found;
  }

  private static Set<String> faceNames(Set<String> face) {
    Set<String> found = new TreeSet<>();
    for (String line : face) {
      found.add(line.replaceAll("^\\w+ (\\w+).*$", "$1"));
    }
    return found;
  }

  private static Set<String> face(Class<?> c) {
    Set<String> found = new TreeSet<>();
    for (Method m : c.getDeclaredMethods()) {
      if (Modifier.isPublic(m.getModifiers())) {
        String with = Arrays.toString(m.getParameterTypes());
        found.add(m.getReturnType() + " " + m.getName() + "(" + with.substring(1, with.length() - 1) + ")");
      }
    }
    return found;
  }

  /** All but the face is private: fields, methods, constructors. */
  private static void checkHidden(Class<?> c) {
    for (Method m : c.getDeclaredMethods()) {
      if (!Modifier.isPublic(m.getModifiers()) && !Modifier.isPrivate(m.getModifiers())) {
        wrong(m + " is not private");
      }
    }
    for (Field f : c.getDeclaredFields()) {
      boolean constant = f.getName().equals("NONE") && Modifier.isPublic(f.getModifiers());
      if (!constant && !Modifier.isPrivate(f.getModifiers())) {
        wrong(f + " is not private");
      }
    }
    Constructor<?>[] made = c.getDeclaredConstructors();
    if (made.length != 1 || !Modifier.isPublic(made[0].getModifiers()) || made[0].getParameterCount() != 0) {
      wrong("the constructor is not the one asked");
    }
  }

  private static void checkInside(Class<?> c, Set<String> faceNames) {
    for (Class<?> inside : c.getDeclaredClasses()) {
      int how = inside.getModifiers();
      if (!Modifier.isStatic(how) || Modifier.isPublic(how) || Modifier.isProtected(how)) {
        wrong(inside + " is not hidden and static");
      }
      checkNames(inside, faceNames);
      checkStatics(inside);
    }
    checkNames(c, faceNames);
    checkStatics(c);
  }

  private static void checkNames(Class<?> c, Set<String> faceNames) {
    for (Method m : c.getDeclaredMethods()) {
      if (!Modifier.isPublic(m.getModifiers()) && faceNames.contains(m.getName())) {
        wrong(m + " bears the name of a public method");
      }
      if (m.getParameterCount() > 7) {
        wrong(m + " takes more than seven parameters");
      }
    }
  }

  private static void checkStatics(Class<?> c) {
    for (Field f : c.getDeclaredFields()) {
      if (Modifier.isStatic(f.getModifiers()) && !Modifier.isFinal(f.getModifiers())) {
        wrong(f + " is static and not final");
      }
    }
  }

  private static void checkText() throws Exception {
    String text = Files.readString(PROGRAM).replaceAll("(?s)/\\*.*?\\*/|//[^\n]*", "");
    for (String banned : BANNED) {
      Matcher m = Pattern.compile(banned).matcher(text);
      if (m.find()) {
        wrong("the program has '" + m.group() + "'");
      }
    }
    for (char sign : text.toCharArray()) {
      if (sign > 126) {
        wrong("the program has the sign " + (int) sign);
      }
    }
  }

  /** A method ends at a line with a bracket that is as far in as the line it begins with. */
  private static void checkLengths() throws Exception {
    List<String> lines = Files.readAllLines(PROGRAM);
    for (int i = 0; i < lines.size(); i++) {
      Matcher m = Pattern.compile("^( {2}| {4})\\w.*\\) \\{$").matcher(lines.get(i));
      if (m.matches()) {
        int end = i;
        while (!lines.get(end).equals(m.group(1) + "}")) {
          end++;
        }
        if (end - i + 1 > LINES_AT_MOST) {
          wrong("longer than " + LINES_AT_MOST + " lines: " + lines.get(i).trim());
        }
      }
    }
  }

  private static void checkBodies(Class<?> c) throws Exception {
    List<Class<?>> classes = new ArrayList<>(List.of(c.getDeclaredClasses()));
    classes.add(c);
    if (classes.size() > CLASSES_AT_MOST) {
      wrong(classes.size() + " classes");
    }
    Map<String, ClassFile.Body> bodies = new TreeMap<>();
    for (Class<?> one : classes) {
      bodies.putAll(new ClassFile(one).bodies);
      long fields = Arrays.stream(one.getDeclaredFields()).filter(f -> !Modifier.isStatic(f.getModifiers())).count();
      if (fields > FIELDS_AT_MOST) {
        wrong(one + " has " + fields + " fields");
      }
    }
    bodies.forEach((method, body) -> checkBody(method, body, bodies.keySet()));
    for (String method : bodies.keySet()) {
      int depth = depth(method, bodies, new ArrayList<>());
      if (depth > DEPTH_AT_MOST) {
        wrong("calls go " + depth + " deep from " + method);
      }
    }
  }

  private static void checkBody(String method, ClassFile.Body body, Set<String> own) {
    if (body.catches) {
      wrong(method + " catches");
    }
    boolean mayMake = method.endsWith(".<init>") || method.endsWith(".<clinit>");
    for (int instruction : body.instructions) {
      if (BANNED_INSTRUCTIONS.contains(instruction)) {
        wrong(method + " has the instruction " + instruction);
      }
      if (MAKING.contains(instruction) && !mayMake) {
        wrong(method + " makes an object or an array");
      }
    }
    for (String called : body.calls) {
      if (!own.contains(called) && !LIBRARY.contains(called)) {
        wrong(method + " calls " + called);
      }
    }
  }

  /** How many calls stand open at once, a method that is open already not counted again. */
  private static int depth(String method, Map<String, ClassFile.Body> bodies, List<String> open) {
    int deepest = 0;
    if (bodies.containsKey(method)) {
      open.add(method);
      for (String called : bodies.get(method).calls) {
        if (!open.contains(called)) {
          deepest = Math.max(deepest, depth(called, bodies, open));
        }
      }
      open.remove(method);
    }
    return deepest + 1;
  }
}
