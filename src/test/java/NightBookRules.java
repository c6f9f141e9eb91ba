import java.lang.management.ManagementFactory;
import java.lang.reflect.Constructor;
import java.lang.reflect.Field;
import java.lang.reflect.Method;
import java.lang.reflect.Modifier;
import java.nio.file.Files;
import java.nio.file.Path;
import java.util.HashSet;
import java.util.Set;
import java.util.TreeSet;
import java.util.regex.Matcher;
import java.util.regex.Pattern;

/** The face of the document, and those rules of LANGUAGE.md that a look at the source or a run can tell. */
public final class NightBookRules {
  private static final String[] FACE = {
    "int fact()", "int sign(int)", "int person(int)", "boolean goal(int)", "int feed(int,int,int,int,int)",
    "int book(int)", "int fault()", "int where()", "int steps(int)", "int step(int,int,int)",
    "int play(int,int,int,int)", "int played(int)", "int path(int)", "int all(int,int,int,int,int)",
    "int ended(int)", "int allOf(int)", "int idle(int)", "int look(int,int)", "int mends()", "int mend(int)",
    "int nights(int,int,int,int,int,int,int)", "int night(boolean,int)", "int log(int)", "int clear()",
    "int laid()", "int apart(boolean)", "int differ(int,int,int,int,int,int)", "int count(int)", "int trouble()"
  };
  private static int wrong = 0;

  private static void must(boolean holds, String what) {
    if (!holds) { wrong++; System.out.println("broken: " + what); }
  }

  private static String told(Method m) {
    StringBuilder b = new StringBuilder(m.getReturnType().getSimpleName()).append(' ').append(m.getName()).append('(');
    for (Class<?> p : m.getParameterTypes()) b.append(b.charAt(b.length() - 1) == '(' ? "" : ",").append(p.getSimpleName());
    return b.append(')').toString();
  }

  private static void face() {
    Class<?> c = NightBook.class;
    must(Modifier.isPublic(c.getModifiers()) && Modifier.isFinal(c.getModifiers()), "1: public and final");
    Set<String> shown = new TreeSet<>();
    Set<String> publicNames = new HashSet<>();
    for (Method m : c.getDeclaredMethods()) {
      if (Modifier.isPrivate(m.getModifiers())) continue;
      must(Modifier.isPublic(m.getModifiers()) && !Modifier.isStatic(m.getModifiers()), "1: " + told(m) + " is public");
      shown.add(told(m));
      publicNames.add(m.getName());
    }
    must(shown.equals(new TreeSet<>(Set.of(FACE))), "1: the methods of the face: " + shown);
    for (Field f : c.getDeclaredFields()) {
      must(Modifier.isPrivate(f.getModifiers()) || f.getName().equals("NONE"), "1: the field " + f.getName() + " is private");
      must(!Modifier.isStatic(f.getModifiers()) || Modifier.isFinal(f.getModifiers()), "5: " + f.getName() + " is final");
    }
    Constructor<?>[] made = c.getDeclaredConstructors();
    must(made.length == 1 && made[0].getParameterCount() == 0 && Modifier.isPublic(made[0].getModifiers()), "1: one constructor");
    must(c.getDeclaredClasses().length <= 11, "11: at most twelve classes");
    for (Class<?> inner : c.getDeclaredClasses()) {
      must(Modifier.isStatic(inner.getModifiers()), "1: " + inner.getSimpleName() + " is static");
      int fields = 0;
      for (Field f : inner.getDeclaredFields()) fields += Modifier.isStatic(f.getModifiers()) ? 0 : 1;
      must(fields <= 20, "11: at most twenty fields in " + inner.getSimpleName());
      for (Method m : inner.getDeclaredMethods()) must(m.getParameterCount() <= 7, "11: seven parameters");
    }
    for (Method m : c.getDeclaredMethods()) {
      must(!Modifier.isPrivate(m.getModifiers()) || !publicNames.contains(m.getName()), "1: " + m.getName() + " is private and public");
      must(m.getParameterCount() <= 7, "11: seven parameters");
    }
  }

  private static void source() throws Exception {
    String text = Files.readString(Path.of("src/main/java/NightBook.java"));
    must(text.chars().allMatch(c -> c == '\n' || c >= 32 && c < 127), "4: signs");
    String code = text.replaceAll("(?s)/\\*.*?\\*/", " ").replaceAll("//[^\n]*", " ").replaceAll("\"[^\"\n]*\"", "\"\"");
    for (String word : new String[] {"throw", "throws", "try", "catch", "finally", "synchronized", "assert", "package", "volatile", "transient", "native", "hashCode", "toString", "Object", "System", "Random", "Thread", "Exception", "protected"}) {
      must(!Pattern.compile("\\b" + word + "\\b").matcher(code).find(), "6: the word " + word);
    }
    must(!code.contains("->") && !code.contains("::"), "2: lambda or method reference");
    must(!Pattern.compile("\\bwhile\\s*\\(\\s*true|for\\s*\\(\\s*;\\s*;").matcher(code).find(), "9: a loop without a bound");
    Matcher imports = Pattern.compile("import\\s+([\\w.]+);").matcher(code);
    while (imports.find()) must(imports.group(1).equals("java.util.Arrays"), "4: import " + imports.group(1));
    String[] lines = text.split("\n");
    int since = -1;
    for (int i = 0; i < lines.length; i++) {
      if (lines[i].matches("\\s+(public|private|static|boolean|int|void|long|[A-Z]\\w*).*\\) \\{") && !lines[i].contains(" class ")) since = i;
      if (since >= 0 && lines[i].equals(lines[since].replaceAll("\\S.*", "") + "}")) {
        must(i - since < 60, "11: sixty lines a method, at line " + since);
        since = -1;
      }
    }
  }

  /** What calls make is counted against one room for all of a run: here none makes anything. */
  private static void room() {
    com.sun.management.ThreadMXBean threads = (com.sun.management.ThreadMXBean) ManagementFactory.getThreadMXBean();
    long most = 0;
    for (int round = 0; round < 3; round++) {
      NightBook x = new NightBook();
      long before = threads.getCurrentThreadAllocatedBytes();
      calls(x);
      most = threads.getCurrentThreadAllocatedBytes() - before;
    }
    must(most < 1024, "12: 400 calls made " + most + " bytes");
    long before = threads.getCurrentThreadAllocatedBytes();
    int end = new NightBook().play(0, 0, 0, 0);
    long one = threads.getCurrentThreadAllocatedBytes() - before;
    must(end == -1 && one < 40000, "12: an object has " + one + " bytes");
  }

  private static void calls(NightBook x) {
    for (int i = 0; i < 4; i++) { x.fact(); x.sign(i); x.person(1 << i); }
    x.feed(0x61736b20, 0x30207468, 0x656e2031, 0x20656c73, 0x6520323b);
    x.feed(0x646f2030, 0x20726967, 0x68742030, 0x2074616b, 0x65732035);
    x.feed(0x3b63616c, 0x6d202020, 0x20202020, 0x20202020, 0x20202020);
    x.book(60);
    for (int i = 0; i < 60; i++) {
      x.play(0, i, 0, 0); x.all(0, 15, 2, 2, 1); x.mends(); x.nights(0, i, 0, 0, 1, 0, 0);
      x.differ(0, 0, 15, 2, 1, 1); x.log(i % 3); x.laid();
    }
  }

  public static void main(String[] args) throws Exception {
    face();
    source();
    room();
    System.out.println(wrong == 0 ? "the rules hold" : wrong + " rules are broken");
    if (wrong != 0) System.exit(1);
  }
}
