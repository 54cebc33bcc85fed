import java.lang.reflect.Method;
import java.util.ArrayList;
import java.util.List;
import java.util.Random;

/** Runs of calls, drawn from fixed seeds, on the program and on the NaiveGame side by side. */
public final class ModelTest {
  private static final int RUNS = 120;
  private static final int CALLS = 60;

  private static final String[] NAMES = {
    "row", "set", "copy", "element", "holds", "show", "says", "size", "player", "turn", "feed",
    "wipe", "board", "fieldOf", "edgeOf", "playerOf", "may", "moves", "score", "lead", "lanes",
    "ditch", "drained", "thirds", "chain", "longest", "shuts", "calm", "part", "parts", "ditches",
    "owned", "coloured", "gives", "gaps", "rim", "leader", "bare", "soft", "after", "best",
    "worth", "choice", "played", "wins", "champion", "likenesses", "alike", "judge", "behind",
    "done", "move", "goes", "games", "seed", "image", "back", "status"
  };

  /** Those that say what there is, asked behind every change. */
  private static final String[] ASKED_ALWAYS = {"drained", "thirds", "longest", "calm", "parts"};

  private static final String[] CHANGING = {"move", "goes", "done", "size", "board", "back"};

  private final Random random;
  private final int run;
  private final HedgesAndDitches program = new HedgesAndDitches();
  private final NaiveGame naive = new NaiveGame();
  private final List<String> told = new ArrayList<>();
  private boolean wrong = false;

  private ModelTest(int run) {
    this.run = run;
    this.random = new Random(run);
  }

  public static void main(String[] args) throws Exception {
    int wrong = 0;
    int calls = 0;
    for (int run = 0; run < RUNS; run++) {
      ModelTest test = new ModelTest(run);
      test.go();
      calls += test.told.size();
      if (test.wrong) {
        wrong++;
      }
    }
    System.out.println(calls + " calls, " + (wrong == 0 ? "all as the model has them" : wrong + " runs are wrong"));
    if (wrong != 0) {
      System.exit(1);
    }
  }

  private int upTo(int n) {
    return random.nextInt(n);
  }

  private void go() throws Exception {
    prepare();
    for (int i = 0; i < CALLS && !wrong; i++) {
      step();
    }
  }

  /** Most runs have PLAYERS and a board of another size, and many stand near the end. */
  private void prepare() throws Exception {
    call("size", 1 + upTo(4), 1 + upTo(4));
    for (int k = upTo(7); k > 0; k--) {
      call("player", upTo(6), upTo(10));
    }
    call("seed", random.nextInt());
    if (upTo(3) != 0) {
      fillUp();
    }
  }

  private void fillUp() throws Exception {
    int left = upTo(14);
    while (naive.moves(-1) > left && !wrong) {
      call("move", naive.moves(upTo(naive.moves(-1))));
    }
  }

  private void step() throws Exception {
    switch (upTo(8)) {
      case 0 -> call("move", someMove());
      case 1 -> feedText();
      case 2 -> tellGame();
      default -> callAny(NAMES[upTo(NAMES.length)]);
    }
  }

  private int someMove() {
    int n = naive.board.allMoves().size();
    return n > 0 && upTo(4) != 0 ? naive.board.allMoves().get(upTo(n)) : number();
  }

  private int number() {
    return switch (upTo(8)) {
      case 0 -> -1;
      case 1 -> upTo(42);
      case 2 -> 99 + upTo(19);
      case 3 -> random.nextInt();
      default -> upTo(9) - (upTo(6) == 0 ? 1 : 0);
    };
  }

  private void callAny(String name) throws Exception {
    if (name.equals("champion") && upTo(4) != 0 || name.equals("size") && upTo(4) != 0) {
      return;
    }
    if (name.equals("set")) {
      long v = upTo(2) == 0 ? random.nextLong() : number();
      compare("set", new Class<?>[] {int.class, int.class, long.class}, upTo(9) - 1, number(), v);
      return;
    }
    int[] with = new int[arity(name)];
    for (int i = 0; i < with.length; i++) {
      with[i] = number();
    }
    call(name, with);
  }

  private static int arity(String name) {
    for (Method m : HedgesAndDitches.class.getMethods()) {
      if (m.getName().equals(name) && m.getDeclaringClass() == HedgesAndDitches.class) {
        return m.getParameterCount();
      }
    }
    throw new IllegalStateException(name);
  }

  private void tellGame() throws Exception {
    int s = upTo(8);
    int n = upTo(12);
    call("row", s, upTo(5), n);
    NaiveGame.Board b = naive.board.copy();
    for (int i = 0; i < n; i++) {
      List<Integer> all = b.allMoves();
      int m = all.isEmpty() || upTo(30) == 0 ? number() : all.get(upTo(all.size()));
      compare("set", new Class<?>[] {int.class, int.class, long.class}, s, i, (long) m);
      if (b.may(m)) {
        b.make(m);
      }
    }
    call("judge", s, n);
    call("behind", s, n);
    call("done", s, upTo(4) == 0 ? n + 1 : n);
  }

  private void feedText() throws Exception {
    call("wipe");
    StringBuilder text = new StringBuilder();
    for (int k = upTo(6); k >= 0; k--) {
      text.append(statement());
      if (k > 0 || upTo(15) == 0) {
        text.append(upTo(20) == 0 ? " " : ";");
      }
    }
    for (int i = 0; i < text.length(); i++) {
      char letter = upTo(150) == 0 ? (char) upTo(256) : text.charAt(i);
      call("feed", letter);
    }
    call("board");
  }

  private String statement() {
    String gap = upTo(3) == 0 ? "  " : " ";
    String tight = upTo(3) == 0 ? " " : "";
    return switch (upTo(8)) {
      case 0 -> tight + "size" + tight + (1 + upTo(4)) + gap + (upTo(9) == 0 ? upTo(7) : 1 + upTo(4));
      case 1 -> "turn" + gap + (upTo(9) == 0 ? upTo(4) : upTo(2));
      case 2 -> "player" + gap + upTo(upTo(4) == 0 ? 8 : 6) + gap + upTo(upTo(4) == 0 ? 12 : 10) + tight;
      case 3, 4 -> "dig" + tight + (upTo(3) == 0 ? "0" : "") + upTo(9);
      default -> "hedge" + gap + upTo(upTo(3) == 0 ? 42 : 13) + tight;
    };
  }

  private void call(String name, int... with) throws Exception {
    Class<?>[] types = new Class<?>[with.length];
    Object[] given = new Object[with.length];
    for (int i = 0; i < with.length; i++) {
      types[i] = int.class;
      given[i] = with[i];
    }
    compare(name, types, given);
    for (String changing : CHANGING) {
      if (name.equals(changing) && !wrong) {
        askAll();
      }
    }
  }

  private void askAll() throws Exception {
    for (String name : ASKED_ALWAYS) {
      compare(name, new Class<?>[0]);
    }
    for (int what = 0; what <= 16; what++) {
      compare("status", new Class<?>[] {int.class}, what);
    }
    compare("owned", new Class<?>[] {int.class}, 0);
    compare("coloured", new Class<?>[] {int.class}, 1);
    compare("lead", new Class<?>[] {int.class}, 0);
    compare("likenesses", new Class<?>[0]);
    if (naive.board.allMoves().size() <= 5) {
      compare("best", new Class<?>[0]);
      compare("worth", new Class<?>[0]);
    }
  }

  private void compare(String name, Class<?>[] types, Object... with) throws Exception {
    told.add(name + java.util.Arrays.toString(with));
    Object want = NaiveGame.class.getDeclaredMethod(name, types).invoke(naive, with);
    Object got = HedgesAndDitches.class.getMethod(name, types).invoke(program, with);
    if (((Number) want).longValue() != ((Number) got).longValue()) {
      wrong = true;
      String last = told.get(told.size() - 1);
      System.out.println("run " + run + ", call " + told.size() + ": " + last + " answered " + got + ", due is " + want);
    }
  }
}
