import java.lang.reflect.InvocationTargetException;
import java.lang.reflect.Method;
import java.util.HashMap;
import java.util.Map;
import java.util.TreeMap;

/**
 * A new object and the calls that a script makes on it. A script has, with blanks between: calls
 * as Java has them (with NONE, MIN, MAX, LMIN and LMAX for numbers); h5 and d2 for the MOVES that
 * hedge EDGE 5 and dig FIELD 2, which must not be refused; a text in angle brackets that is fed to
 * THE TAPE; a text in apostrophes that is fed and read as a BOARD, which must be one.
 */
final class Run {
  private static final int CALLS_AT_MOST = 512;
  private static final Map<String, Method> FACE = face();

  /** Marks what follows from the rest, so that a test need not tell how it changes. */
  static final String FOLLOWING = "following ";

  private static final String[] FOLLOWS = {
    "score(0)", "lead(1)", "lanes(0)", "lanes(1)", "coloured(0)", "coloured(1)", "drained()", "ditches()", "parts()",
    "part(0)", "rim()", "gaps()", "calm()", "longest()", "likenesses()", "moves(NONE)", "moves(0)"
  };

  private final HedgesAndDitches object = new HedgesAndDitches();
  private int calls = 0;

  Run(String script) {
    int at = 0;
    while (at < script.length()) {
      char sign = script.charAt(at);
      int end = at + 1;
      if (sign == '<' || sign == '\'') {
        end = script.indexOf(sign == '<' ? '>' : '\'', at + 1) + 1;
        feed(script.substring(at + 1, end - 1));
        if (sign == '\'' && call("board()") < 0) {
          throw new IllegalStateException(script.substring(at, end));
        }
      } else if ((sign == 'h' || sign == 'd') && Character.isDigit(script.charAt(at + 1))) {
        while (end < script.length() && Character.isDigit(script.charAt(end))) {
          end++;
        }
        int number = Integer.parseInt(script.substring(at + 1, end));
        if (call("move(" + (sign == 'd' ? number + 100 : number) + ")") < 0) {
          throw new IllegalStateException(script.substring(at, end) + " of " + script);
        }
      } else if (sign != ' ') {
        end = script.indexOf(')', at) + 1;
        call(script.substring(at, end));
      }
      at = end;
    }
  }

  private static Map<String, Method> face() {
    Map<String, Method> found = new HashMap<>();
    for (Method m : HedgesAndDitches.class.getDeclaredMethods()) {
      if (java.lang.reflect.Modifier.isPublic(m.getModifiers())) {
        found.put(m.getName(), m);
      }
    }
    return found;
  }

  private void feed(String text) {
    for (int i = 0; i < text.length(); i++) {
      call("feed(" + (int) text.charAt(i) + ")");
    }
  }

  long call(String text) {
    int open = text.indexOf('(');
    String inside = text.substring(open + 1, text.length() - 1);
    String[] parts = inside.isBlank() ? new String[0] : inside.split(",");
    Method method = FACE.get(text.substring(0, open));
    Class<?>[] types = method.getParameterTypes();
    Object[] with = new Object[parts.length];
    for (int i = 0; i < parts.length; i++) {
      long number = number(parts[i].trim());
      if (types[i] == int.class) {
        with[i] = Math.toIntExact(number);
      } else {
        with[i] = number;
      }
    }
    calls++;
    if (calls > CALLS_AT_MOST) {
      throw new IllegalStateException("more than " + CALLS_AT_MOST + " calls on one object");
    }
    try {
      return ((Number) method.invoke(object, with)).longValue();
    } catch (IllegalAccessException | InvocationTargetException e) {
      throw new IllegalStateException(text, e);
    }
  }

  private static long number(String text) {
    return switch (text) {
      case "NONE" -> HedgesAndDitches.NONE;
      case "MIN" -> Integer.MIN_VALUE;
      case "MAX" -> Integer.MAX_VALUE;
      case "LMIN" -> Long.MIN_VALUE;
      case "LMAX" -> Long.MAX_VALUE;
      default -> Long.parseLong(text);
    };
  }

  /** All that can be seen of the object: what there is, what THE TAPE says, what was kept. */
  Map<String, Long> all() {
    Map<String, Long> found = new TreeMap<>();
    for (int what = 0; what <= 16; what++) {
      ask("status(" + what + ")", "", found);
    }
    lookAtBoard("", found);
    for (int s = 0; s < 8; s++) {
      ask("holds(" + s + ")", "", found);
      for (int i : new int[] {0, 1, 2, 3, 4, 38, 39, 40}) {
        ask("element(" + s + ", " + i + ")", "", found);
      }
    }
    ask("board()", "", found);
    ask("back()", "", found);
    if (found.get("back()") == 1) {
      for (int what : new int[] {0, 1, 2, 3, 4, 5, 6, 7, 9, 11}) {
        ask("status(" + what + ")", "kept ", found);
      }
      lookAtBoard("kept ", found);
    }
    return found;
  }

  private void lookAtBoard(String ahead, Map<String, Long> found) {
    long fields = call("status(0)") * call("status(1)");
    for (long f = 0; f < fields; f++) {
      for (int what = 0; what <= 2; what++) {
        ask("fieldOf(" + f + ", " + what + ")", ahead, found);
      }
    }
    long edges = call("status(11)");
    for (long e = 0; e < edges; e++) {
      ask("edgeOf(" + e + ", 0)", ahead, found);
    }
    long players = call("status(7)");
    for (long p = 0; p < players; p++) {
      ask("playerOf(" + p + ", 0)", ahead, found);
      ask("playerOf(" + p + ", 1)", ahead, found);
    }
    for (String call : FOLLOWS) {
      ask(call, ahead + FOLLOWING, found);
    }
    ask("part(" + (fields - 1) + ")", ahead + FOLLOWING, found);
  }

  private void ask(String call, String ahead, Map<String, Long> found) {
    found.put(ahead + call, call(call));
  }
}
