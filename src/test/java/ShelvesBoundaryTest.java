/** What promises 1 to 8 say of a new object and of SHELVES, at each boundary they name. */
public final class ShelvesBoundaryTest {
  private static final Bench t = new Bench(1, 8);

  public static void main(String[] args) {
    aNewObject();
    manyCalls();
    row();
    newRows();
    set();
    lowestBits();
    copy();
    copyRefused();
    copyOrder();
    element();
    holds();
    show();
    says();
    saysOver();
    t.end();
  }

  private static void aNewObject() {
    t.promise(1);
    t.words("A board of 2 by 2, no PLAYERS; SHELVES hold NOTHING; THE TAPE is empty.");
    int[] states = {2, 2, 0, 0, 0, 0, 0, 0, 0, 1, 0, 12, 0, 0, 0, 0, 0};
    for (int what = 0; what < states.length; what++) {
      t.asks("status(" + what + ")", states[what]);
    }
    for (int s = 0; s < 8; s++) {
      t.asks("holds(" + s + ")", -1);
    }
    for (int f = 0; f < 4; f++) {
      t.asks("fieldOf(" + f + ", 0)", 0);
      t.asks("fieldOf(" + f + ", 1)", 0);
      t.asks("fieldOf(" + f + ", 2)", -1);
    }
    t.refused("playerOf(0, 0)", -2);
    t.asks("wipe()", 0);
    t.refused("back()", -5);
    t.words("Whose TURN it is: 0 or 1 (0 at first). MOVES made (0 at first).");
    t.asks("turn(0)", 0);
    t.on("row(0, 0, 0)");
    t.asks("done(0, 0)", 0);
    t.on("");
    t.words("SEED (1 at first)");
    t.asks("seed(1)", 1);
    t.words("OWNER of a FIELD: 0, 1, or nobody (NONE).");
    t.due("NONE", HedgesAndDitches.NONE, -1);
  }

  private static void manyCalls() {
    t.words("An object is used for at most 512 calls after it has been made");
    HedgesAndDitches x = new HedgesAndDitches();
    for (int i = 0; i < 511; i++) {
      x.seed(i);
    }
    t.due("call 512", x.seed(0), 510);
  }

  private static void row() {
    t.promise(2);
    t.words("SHELF s holds a new ROW: 1. BAD.");
    t.words("SHELVES 0 to 7 hold NOTHING (at first), a ROW, or a PLAYER.");
    t.on(Scenes.ALL);
    t.refused("row(-1, 0, 0)", -2);
    t.changes("row(0, 0, 3)", 1, "holds(0)=0", "element(0, 0)=0", "element(0, 1)=0", "element(0, 2)=0");
    t.changes("row(7, 0, 0)", 1, "holds(7)=0", "status(10)=+1");
    t.refused("row(8, 0, 0)", -2);
    t.refused("row(MIN, 0, 0)", -2);
    t.refused("row(MAX, 0, 0)", -2);
    t.words("A ROW has a SORT (0 bytes, 1 shorts, 2 ints, 3 longs, 4 booleans)");
    t.refused("row(5, -1, 0)", -2);
    for (int sort = 0; sort <= 4; sort++) {
      t.changes("row(5, " + sort + ", 2)", 1, "holds(5)=" + sort, "status(10)=+1");
    }
    t.refused("row(5, 5, 0)", -2);
    t.refused("row(5, MAX, 0)", -2);
    t.refused("row(5, MIN, 0)", -2);
    t.words("and 0 to 40 elements");
    t.refused("row(5, 0, -1)", -2);
    t.changes("row(5, 0, 0)", 1, "holds(5)=0", "status(10)=+1");
    t.changes("row(5, 0, 40)", 1, "holds(5)=0", "status(10)=+1");
    t.refused("row(5, 0, 41)", -2);
    t.refused("row(5, 0, MAX)", -2);
    t.refused("row(5, 0, MIN)", -2);
    t.refused("row(0, 5, 3)", -2);
    t.refused("row(0, 2, 41)", -2);
    t.refused("row(8, 5, 41)", -2);
  }

  private static void newRows() {
    t.words("(0, or not so, at first)");
    t.on(Scenes.ALL);
    t.changes("row(0, 2, 3)", 1, "element(0, 0)=0", "element(0, 1)=0", "element(0, 2)=0");
    t.changes("row(1, 0, 40)", 1, "element(1, 39)=0");
    t.on("row(0, 4, 1) set(0, 0, 1)");
    t.changes("row(0, 4, 1)", 1, "element(0, 0)=0");
    t.on("row(0, 2, 40) set(0, 39, 5) row(0, 2, 1)");
    t.like("row(0, 2, 40)", 1, "row(0, 2, 40)");
    t.on(Scenes.ALL);
    t.changes("row(2, 1, 1)", 1, "holds(2)=1");
    t.on("row(0, 2, 2)");
    t.refused("set(0, 2, 0)", -2);
    t.changes("set(0, 1, 3)", 1, "element(0, 1)=3");
    t.on("row(0, 2, 0)");
    t.refused("set(0, 0, 0)", -2);
    t.on("row(0, 2, 40)");
    t.changes("set(0, 39, 3)", 1, "element(0, 39)=3");
    t.refused("set(0, 40, 3)", -2);
  }

  private static void set() {
    t.promise(3);
    t.words("Element i of the ROW in SHELF s becomes v: 1. BAD SHELF; OTHER; NOTHING; BAD i.");
    t.on(Scenes.ALL);
    t.refused("set(-1, 0, 9)", -2);
    t.changes("set(0, 0, 9)", 1, "element(0, 0)=9");
    t.refused("set(8, 0, 9)", -2);
    t.refused("set(MIN, 0, 9)", -2);
    t.refused("set(MAX, 0, 9)", -2);
    t.refused("set(2, 0, 9)", -3);
    t.refused("set(7, 0, 9)", -4);
    t.refused("set(0, -1, 9)", -2);
    t.changes("set(0, 2, 9)", 1, "element(0, 2)=9");
    t.refused("set(0, 3, 9)", -2);
    t.refused("set(0, MIN, 9)", -2);
    t.refused("set(0, MAX, 9)", -2);
    t.changes("set(1, 0, 9)", 1, "element(1, 0)=9");
    t.changes("set(1, 39, 9)", 1, "element(1, 39)=9");
    t.refused("set(1, 40, 9)", -2);
    t.refused("set(3, 0, 9)", -2);
    t.words("the first that fits as each line has them");
    t.refused("set(8, -1, 9)", -2);
    t.refused("set(2, -1, 9)", -3);
    t.refused("set(2, 40, 9)", -3);
    t.refused("set(7, -1, 9)", -4);
    t.refused("set(7, 40, 9)", -4);
  }

  /** A value put into a ROW of a SORT, and the element it becomes. */
  private static void kept(int sort, String v, String element) {
    t.on("row(6, " + sort + ", 1)");
    if (element.equals("0")) {
      t.asks("set(6, 0, " + v + ")", 1);
      t.on("row(6, " + sort + ", 1) set(6, 0, 1)");
    }
    t.changes("set(6, 0, " + v + ")", 1, "element(6, 0)=" + element);
  }

  private static void lowestBits() {
    t.words("what is put in keeps its lowest bits");
    String[][] puts = {
      {"127", "127", "128", "-128", "255", "-1", "256", "0", "257", "1", "-128", "-128", "-129", "127", "LMIN", "0", "LMAX", "-1"},
      {"32767", "32767", "32768", "-32768", "65535", "-1", "65536", "0", "-32768", "-32768", "-32769", "32767", "LMIN", "0"},
      {"2147483647", "2147483647", "2147483648", "-2147483648", "4294967295", "-1", "4294967296", "0",
        "-2147483648", "-2147483648", "-2147483649", "2147483647", "LMAX", "-1", "LMIN", "0"},
      {"4294967296", "4294967296", "LMAX", "9223372036854775807", "LMIN", "-9223372036854775808", "-1", "-1"}
    };
    for (int sort = 0; sort <= 3; sort++) {
      for (int i = 0; i < puts[sort].length; i += 2) {
        kept(sort, puts[sort][i], puts[sort][i + 1]);
      }
    }
    t.words("(of booleans: whether it is not 0); told they are numbers (1, 0)");
    for (String so : new String[] {"1", "2", "-1", "256", "4294967296", "LMIN", "LMAX"}) {
      kept(4, so, "1");
    }
    kept(4, "0", "0");
  }

  private static void copy() {
    t.promise(4);
    t.words("n elements of the ROW in SHELF p from place i on come to places j on of that in q (as they were): n.");
    t.on("row(0, 2, 5) set(0, 0, 1) set(0, 1, 2) set(0, 2, 3) set(0, 3, 4) set(0, 4, 5) row(7, 2, 3)");
    t.changes("copy(0, 7, 0, 0, 3)", 3, "element(7, 0)=1", "element(7, 1)=2", "element(7, 2)=3");
    t.changes("copy(0, 7, 2, 0, 3)", 3, "element(7, 0)=3", "element(7, 1)=4", "element(7, 2)=5");
    t.changes("copy(0, 7, 4, 2, 1)", 1, "element(7, 2)=5");
    t.changes("copy(7, 0, 0, 2, 3)", 3, "element(0, 2)=0", "element(0, 3)=0", "element(0, 4)=0");
    t.changes("copy(0, 0, 0, 1, 4)", 4, "element(0, 1)=1", "element(0, 2)=2", "element(0, 3)=3", "element(0, 4)=4");
    t.changes("copy(0, 0, 1, 0, 4)", 4, "element(0, 0)=2", "element(0, 1)=3", "element(0, 2)=4", "element(0, 3)=5");
    t.asks("copy(0, 0, 0, 0, 5)", 5);
    t.asks("copy(0, 7, 0, 0, 0)", 0);
    t.asks("copy(0, 7, 5, 3, 0)", 0);
    t.on("row(0, 1, 40) set(0, 0, -7) set(0, 39, 9) row(1, 1, 40)");
    t.changes("copy(0, 1, 0, 0, 40)", 40, "element(1, 0)=-7", "element(1, 39)=9");
    t.refused("copy(0, 1, 0, 0, 41)", -2);
    t.on("row(0, 4, 1) set(0, 0, 5) row(1, 4, 1)");
    t.changes("copy(0, 1, 0, 0, 1)", 1, "element(1, 0)=1");
    t.on("row(0, 3, 1) set(0, 0, LMIN) row(1, 3, 1)");
    t.changes("copy(0, 1, 0, 0, 1)", 1, "element(1, 0)=-9223372036854775808");
    t.on("row(0, 3, 0) row(1, 3, 0)");
    t.asks("copy(0, 1, 0, 0, 0)", 0);
    t.refused("copy(0, 1, 0, 0, 1)", -2);
  }

  private static void copyRefused() {
    t.words("BAD SHELVES; OTHER (also ROWS of two SORTS, if both hold something); NOTHING; BAD the others.");
    t.on(Scenes.ALL);
    for (String s : new String[] {"-1", "8", "MIN", "MAX"}) {
      t.refused("copy(" + s + ", 0, 0, 0, 1)", -2);
      t.refused("copy(0, " + s + ", 0, 0, 1)", -2);
    }
    t.refused("copy(2, 0, 0, 0, 1)", -3);
    t.refused("copy(0, 2, 0, 0, 1)", -3);
    t.refused("copy(2, 2, 0, 0, 1)", -3);
    t.refused("copy(0, 1, 0, 0, 1)", -3);
    t.refused("copy(1, 0, 0, 0, 1)", -3);
    t.refused("copy(0, 3, 0, 0, 0)", -3);
    t.refused("copy(7, 0, 0, 0, 1)", -4);
    t.refused("copy(0, 7, 0, 0, 1)", -4);
    t.refused("copy(7, 6, 0, 0, 1)", -4);
    t.refused("copy(0, 7, 0, 0, 0)", -4);
    t.refused("copy(0, 4, -1, 0, 1)", -2);
    t.refused("copy(0, 4, 3, 0, 1)", -2);
    t.refused("copy(0, 4, 1, 0, 3)", -2);
    t.refused("copy(0, 4, 0, 0, 4)", -2);
    t.refused("copy(0, 4, 0, -1, 1)", -2);
    t.refused("copy(0, 4, 0, 5, 1)", -2);
    t.refused("copy(0, 4, 0, 3, 3)", -2);
    t.refused("copy(4, 0, 0, 0, 4)", -2);
    t.refused("copy(0, 4, 0, 0, -1)", -2);
    t.refused("copy(0, 4, 4, 0, 0)", -2);
    t.refused("copy(0, 4, 0, 6, 0)", -2);
    t.refused("copy(0, 4, 1, 1, MAX)", -2);
    t.refused("copy(0, 4, MAX, 0, 1)", -2);
    t.refused("copy(0, 4, 0, MAX, 1)", -2);
    t.refused("copy(0, 4, MAX, MAX, MAX)", -2);
    t.refused("copy(0, 4, 0, 0, MIN)", -2);
    t.refused("copy(0, 4, MIN, 0, 1)", -2);
    t.refused("copy(0, 4, 0, MIN, 1)", -2);
  }

  private static void copyOrder() {
    t.words("the first that fits as each line has them");
    t.refused("copy(2, 8, 0, 0, 1)", -2);
    t.refused("copy(-1, 2, 0, 0, 1)", -2);
    t.refused("copy(8, 7, 0, 0, 1)", -2);
    t.refused("copy(7, -1, 0, 0, 1)", -2);
    t.refused("copy(2, 7, 0, 0, 1)", -3);
    t.refused("copy(7, 2, 0, 0, 1)", -3);
    t.refused("copy(2, 0, -1, 0, 1)", -3);
    t.refused("copy(0, 1, -1, 0, 1)", -3);
    t.refused("copy(0, 1, 0, 0, 41)", -3);
    t.refused("copy(7, 0, -1, 0, 1)", -4);
    t.refused("copy(0, 7, 0, 0, -1)", -4);
  }

  private static void element() {
    t.promise(5);
    t.words("Element i of the ROW; 0: none, no ROW (nothing is refused).");
    t.on(Scenes.ALL);
    t.asks("element(0, -1)", 0);
    t.asks("element(0, 0)", 7);
    t.asks("element(0, 2)", 100);
    t.asks("element(0, 3)", 0);
    t.asks("element(1, 39)", -5);
    t.asks("element(1, 40)", 0);
    t.asks("element(0, MIN)", 0);
    t.asks("element(0, MAX)", 0);
    t.asks("element(3, 0)", 0);
    t.asks("element(2, 0)", 0);
    t.asks("element(7, 0)", 0);
    t.asks("element(-1, 0)", 0);
    t.asks("element(8, 0)", 0);
    t.asks("element(MIN, 0)", 0);
    t.asks("element(MAX, 0)", 0);
    t.on("row(0, 2, 40) set(0, 5, 9) row(0, 2, 5)");
    t.asks("element(0, 5)", 0);
    t.on("player(0, 0) row(0, 2, 1) set(0, 0, 9) show(0, 0)");
    t.asks("element(0, 0)", 0);
    t.on("row(0, 2, 1) set(0, 0, 9) show(0, NONE)");
    t.asks("element(0, 0)", 0);
  }

  private static void holds() {
    t.promise(6);
    t.words("What SHELF s holds: NONE NOTHING, no SHELF; 0 to 4 a ROW by its SORT; 10 and the number of a PLAYER.");
    t.on(Scenes.ALL);
    for (String none : new String[] {"-1", "8", "MIN", "MAX", "5", "7"}) {
      t.asks("holds(" + none + ")", -1);
    }
    t.asks("holds(0)", 2);
    t.asks("holds(1)", 0);
    t.asks("holds(2)", 11);
    t.asks("holds(3)", 3);
    for (int sort = 0; sort <= 4; sort++) {
      t.on("row(7, " + sort + ", 0)");
      t.asks("holds(7)", sort);
    }
    for (int p = 0; p <= 5; p++) {
      t.on("'player 0 0;player 0 0;player 0 0;player 0 0;player 0 0;player 0 0' show(0, " + p + ")");
      t.asks("holds(0)", 10 + p);
    }
  }

  private static void show() {
    t.promise(7);
    t.words("SHELF s holds a PLAYER, or NOTHING (player NONE): 1. BAD.");
    t.on(Scenes.ALL);
    t.refused("show(-1, 0)", -2);
    t.changes("show(7, 0)", 1, "holds(7)=10", "status(10)=+1");
    t.refused("show(8, 0)", -2);
    t.refused("show(-1, NONE)", -2);
    t.refused("show(8, NONE)", -2);
    t.refused("show(MIN, 0)", -2);
    t.refused("show(MAX, 0)", -2);
    t.refused("show(2, -2)", -2);
    t.changes("show(2, NONE)", 1, "holds(2)=-1", "status(10)=+-1");
    t.asks("show(7, NONE)", 1);
    t.changes("show(2, 0)", 1, "holds(2)=10");
    t.changes("show(2, 2)", 1, "holds(2)=12");
    t.refused("show(2, 3)", -2);
    t.refused("show(2, MAX)", -2);
    t.refused("show(2, MIN)", -2);
    t.refused("show(0, 3)", -2);
    t.changes("show(0, 0)", 1, "holds(0)=10", "element(0, 0)=0", "element(0, 1)=0", "element(0, 2)=0");
    t.changes("show(1, NONE)", 1, "holds(1)=-1", "element(1, 39)=0", "status(10)=+-1");
    t.on("");
    t.refused("show(0, 0)", -2);
    t.asks("show(0, NONE)", 1);
    t.on("'player 0 0;player 0 0;player 0 0;player 0 0;player 0 0;player 0 0'");
    t.changes("show(0, 5)", 1, "holds(0)=15", "status(10)=1");
    t.refused("show(0, 6)", -2);
  }

  /** A PLAYER of each KIND, in the SHELF of its number; SHELF 6 holds a ROW. */
  private static final String SIX =
      "player(0, 7) player(1, 1) player(2, 3) player(3, 2) player(4, 9) player(5, 4) "
          + "show(0, 0) show(1, 1) show(2, 2) show(3, 3) show(4, 4) show(5, 5) row(6, 0, 2) ";

  private static void says() {
    t.promise(8);
    t.words("What the PLAYER in SHELF s, taken for one of a KIND, says: PLAYER its a;");
    t.on(SIX + "h0 h2 h6");
    int[] amounts = {7, 1, 3, 2, 9, 4};
    for (int p = 0; p < 6; p++) {
      t.asks("says(" + p + ", 0)", amounts[p]);
    }
    t.words("each of a KIND: 0 PLAYER; 1 SHUTTER, 2 DIGGER, 5 CHANCE, each under PLAYER; 3 CAREFUL, under SHUTTER; 4 RIMMER, under DIGGER");
    t.words("SHUTTER, CAREFUL, DIGGER, RIMMER the MOVE it would make now, by its own KIND");
    t.asks("says(1, 1)", 7);
    t.asks("says(3, 3)", 7);
    t.asks("says(2, 2)", 100);
    t.asks("says(4, 4)", 100);
    t.on(SIX + "h0 h2");
    t.asks("says(1, 1)", 1);
    t.asks("says(3, 1)", 1);
    t.on(SIX + "h0 h1 h6");
    t.asks("says(1, 1)", 2);
    t.asks("says(3, 1)", 3);
    t.asks("says(3, 3)", 3);
    t.on(SIX + "size(3, 3) d0 d1 d2 d3 d5 d6 d7");
    t.asks("says(2, 2)", 0);
    t.asks("says(4, 4)", 108);
    t.asks("says(4, 2)", 108);
    t.words("CHANCE how many MOVES MAY be.");
    t.asks("says(5, 5)", 26);
    t.words("BAD SHELF, KIND; OTHER (also if it is of no such KIND nor of one under it); NOTHING.");
    t.on(SIX);
    for (String s : new String[] {"-1", "8", "MIN", "MAX"}) {
      t.refused("says(" + s + ", 0)", -2);
      t.refused("says(0, " + (s.equals("8") ? "6" : s) + ")", -2);
    }
    int[][] others = {{1, 2, 3, 4, 5}, {2, 3, 4, 5}, {1, 3, 4, 5}, {2, 4, 5}, {1, 3, 5}, {1, 2, 3, 4}};
    for (int p = 0; p < 6; p++) {
      for (int kind : others[p]) {
        t.refused("says(" + p + ", " + kind + ")", -3);
      }
    }
    for (int kind = 0; kind < 6; kind++) {
      t.refused("says(6, " + kind + ")", -3);
      t.refused("says(7, " + kind + ")", -4);
    }
    t.words("the first that fits as each line has them");
    t.refused("says(6, 6)", -2);
    t.refused("says(6, -1)", -2);
    t.refused("says(7, 6)", -2);
    t.refused("says(7, -1)", -2);
    t.refused("says(5, 6)", -2);
  }

  private static void saysOver() {
    t.words("(NONE: the GAME is over)");
    t.words("(NONE isn't refused.)");
    t.on(SIX + "size(1, 1) h0 h1 h2 h3");
    t.asks("says(1, 1)", -1);
    t.asks("says(2, 2)", -1);
    t.asks("says(3, 1)", -1);
    t.asks("says(3, 3)", -1);
    t.asks("says(4, 2)", -1);
    t.asks("says(4, 4)", -1);
    t.asks("says(5, 5)", 0);
    t.asks("says(5, 0)", 4);
    t.on(SIX + "size(4, 4)");
    t.asks("says(5, 5)", 56);
  }
}
