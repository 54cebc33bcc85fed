import java.io.IOException;
import java.io.UncheckedIOException;
import java.nio.file.Files;
import java.nio.file.Path;
import java.util.ArrayList;
import java.util.List;
import java.util.Map;
import java.util.Set;
import java.util.TreeMap;
import java.util.TreeSet;
import java.util.regex.Matcher;
import java.util.regex.Pattern;

/**
 * Holds single calls against the document. Each is made on an object brought forth by a script
 * (see Run), and all that can be seen of it afterwards is compared with a twin that did not make
 * the call: so a test tells what the call changes, and nothing else may.
 */
final class Bench {
  private static final Path DOC = Path.of("../shared/DOC.md");
  private static final Pattern PROMISE = Pattern.compile("(?s)## Promise (\\d+): (.*?)(?=\n## )");
  private static final Pattern REFUSAL = Pattern.compile("\\b(BAD|OTHER|NOTHING|STUCK|FULL)\\b|-100([2-6])");
  private static final List<String> REFUSALS = List.of("BAD", "OTHER", "NOTHING", "STUCK", "FULL");

  /** Promises whose line says NOTHING of what a SHELF holds, not of a refusal. */
  private static final Set<Integer> NOTHING_IS_HELD = Set.of(1, 6, 7, 58);

  private final String terms;
  private final Map<Integer, String> promises = new TreeMap<>();
  private final Map<Integer, Set<Integer>> refusalsSeen = new TreeMap<>();
  private final Set<Integer> quoted = new TreeSet<>();
  private final int first;
  private final int last;

  private int promise = 0;
  private String scene = "";
  private int cases = 0;
  private int wrong = 0;

  /** A bench for the promises from the first to the last one. */
  Bench(int first, int last) {
    this.first = first;
    this.last = last;
    String doc = read(DOC);
    terms = plain(doc.substring(0, doc.indexOf("## Promise 1:")));
    Matcher m = PROMISE.matcher(doc);
    while (m.find()) {
      promises.put(Integer.parseInt(m.group(1)), plain(m.group(2)));
    }
  }

  private static String read(Path path) {
    try {
      return Files.readString(path);
    } catch (IOException e) {
      throw new UncheckedIOException(e);
    }
  }

  private static String plain(String text) {
    return text.replaceAll("\\s+", " ");
  }

  // ---- what a test says

  void promise(int number) {
    promise = number;
    scene = "";
  }

  /** The words of the document that the cases behind them hold the program to. */
  void words(String quote) {
    quoted.add(promise);
    String own = promises.getOrDefault(promise, "");
    if (!own.contains(quote) && !terms.contains(quote)) {
      fail("the document doesn't say '" + quote + "'");
    }
  }

  /** The script that makes each object from here on. */
  void on(String script) {
    scene = script;
  }

  /** The call answers so and changes nothing at all. */
  void asks(String call, long want) {
    changes(call, want);
  }

  /** The call changes nothing on what a script makes, whatever it answers. */
  void asksSome(String script, String call) {
    String ahead = scene;
    scene = script;
    asks(call, new Run(script).call(call));
    scene = ahead;
  }

  /** The call is refused: there is one REFUSAL of its sort more, and nothing else changes. */
  void refused(String call, long want) {
    long why = want <= -1000 ? want + 1000 : want;
    refusalsSeen.computeIfAbsent(promise, p -> new TreeSet<>()).add((int) why);
    changes(call, want, "status(" + (10 - why) + ")=+1");
  }

  /** The call answers so and changes just what is told ("status(5)=1", "status(6)=+1"). */
  void changes(String call, long want, String... told) {
    cases++;
    Run run = new Run(scene);
    due(call, run.call(call), want);
    Map<String, Long> ahead = new Run(scene).all();
    Map<String, Long> wanted = new TreeMap<>(ahead);
    for (String one : told) {
      int at = one.lastIndexOf('=');
      String key = one.substring(0, at);
      String value = one.substring(at + 1);
      if (value.equals("none")) {
        wanted.remove(key);
      } else {
        boolean more = value.charAt(0) == '+';
        wanted.put(key, more ? ahead.get(key) + Long.parseLong(value.substring(1)) : Long.parseLong(value));
      }
    }
    Map<String, Long> got = run.all();
    if (told.length > 1) {
      dropFollowing(got);
      dropFollowing(wanted);
    }
    compare(call, got, wanted);
  }

  private static void dropFollowing(Map<String, Long> found) {
    found.keySet().removeIf(key -> key.contains(Run.FOLLOWING));
  }

  /** The call answers so, and then all is as it is behind another script. */
  void like(String call, long want, String script) {
    cases++;
    Run run = new Run(scene);
    due(call, run.call(call), want);
    compare(call, run.all(), new Run(script).all());
  }

  /** A text on THE TAPE is a BOARD of so many STATEMENTS, and then all is as behind a script. */
  void reads(String text, int statements, String script) {
    String ahead = scene;
    scene = ahead + " <" + text + ">";
    like("board()", statements, ahead + " " + script);
    scene = ahead;
  }

  /** A text on THE TAPE has its FAULT at a place: nothing of it comes to what there is. */
  void fault(String text, int place) {
    String ahead = scene;
    scene = ahead + " <" + text + ">";
    refusalsSeen.computeIfAbsent(promise, p -> new TreeSet<>()).add(-2);
    changes("board()", -20 - place, "status(12)=+1", "status(8)=0", "board()=-20");
    scene = ahead;
  }

  void due(String call, long got, long want) {
    if (got != want) {
      fail(call + " answered " + got + ", due is " + want);
    }
  }

  /** Whether each promise was quoted and each refusal that its line names was met. */
  void end() {
    for (int p = first; p <= last; p++) {
      promise = p;
      scene = "";
      if (!quoted.contains(p)) {
        fail("no words of it are tested");
      }
      Set<Integer> missing = refusalsNamed(p);
      missing.removeAll(refusalsSeen.getOrDefault(p, Set.of()));
      if (!missing.isEmpty()) {
        fail("refusals named but not tested: " + missing);
      }
    }
    System.out.println(cases + " cases of promises " + first + " to " + last + ", " + wrong + " wrong");
    if (wrong != 0) {
      System.exit(1);
    }
  }

  private Set<Integer> refusalsNamed(int p) {
    Set<Integer> found = new TreeSet<>();
    Matcher m = REFUSAL.matcher(promises.getOrDefault(p, ""));
    while (m.find()) {
      int why = m.group(1) == null ? -Integer.parseInt(m.group(2)) : -2 - REFUSALS.indexOf(m.group(1));
      if (why != -4 || !NOTHING_IS_HELD.contains(p)) {
        found.add(why);
      }
    }
    return found;
  }

  private void compare(String call, Map<String, Long> got, Map<String, Long> want) {
    Set<String> keys = new TreeSet<>(got.keySet());
    keys.addAll(want.keySet());
    List<String> unlike = new ArrayList<>();
    for (String key : keys) {
      if (!java.util.Objects.equals(got.get(key), want.get(key))) {
        unlike.add(key + " is " + got.get(key) + ", due is " + want.get(key));
      }
    }
    if (!unlike.isEmpty()) {
      fail("behind " + call + ": " + unlike);
    }
  }

  private void fail(String what) {
    wrong++;
    System.out.println("promise " + promise + (scene.isEmpty() ? "" : ", on " + scene) + ": " + what);
  }
}
