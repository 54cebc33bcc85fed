/** Every promise of the document with answers worked out by hand: ordinary, at the edges, wrong. */
public final class PromisesTest {
  private static final int NONE = HedgesAndDitches.NONE;
  private static int wrong = 0;
  private static int promise = 0;

  private static void due(String call, long got, long want) {
    if (got != want) {
      wrong++;
      System.out.println("promise " + promise + ": " + call + " answered " + got + ", due is " + want);
    }
  }

  private interface Call {
    int answer();
  }

  /** A call that is refused: just one REFUSAL of its sort more, and nothing else changes. */
  private static void refused(String call, HedgesAndDitches x, Call made, int want) {
    int[] before = states(x);
    due(call, made.answer(), want);
    int[] after = states(x);
    int why = want < -1000 ? want + 1000 : want;
    for (int what = 0; what < before.length; what++) {
      int more = what == 10 - why ? 1 : 0;
      due("status(" + what + ") behind " + call, after[what], before[what] + more);
    }
  }

  private static int[] states(HedgesAndDitches x) {
    int[] found = new int[17];
    for (int what = 0; what < found.length; what++) {
      found[what] = x.status(what);
    }
    return found;
  }

  /** How many REFUSALS of one sort (-2 to -6) there were. */
  private static int refusals(HedgesAndDitches x, int why) {
    return x.status(10 - why);
  }

  private static int read(HedgesAndDitches x, String text) {
    for (int i = 0; i < text.length(); i++) {
      x.feed(text.charAt(i));
    }
    return x.board();
  }

  private static HedgesAndDitches told(String text) {
    HedgesAndDitches x = new HedgesAndDitches();
    if (read(x, text) < 0) {
      throw new IllegalStateException(text);
    }
    return x;
  }

  private static void tell(HedgesAndDitches x, int s, int... moves) {
    x.row(s, 2, moves.length);
    for (int i = 0; i < moves.length; i++) {
      x.set(s, i, moves[i]);
    }
  }

  private static int bits(int... fields) {
    int found = 0;
    for (int f : fields) {
      found |= 1 << f;
    }
    return found;
  }

  /** A 3 by 3 board, all hedged but for the EDGES and DUG FIELDS that a test leaves open. */
  private static HedgesAndDitches hedgedNine(String dug, int... open) {
    StringBuilder text = new StringBuilder("size 3 3");
    text.append(dug);
    for (int e = 0; e < 24; e++) {
      boolean bare = false;
      for (int o : open) {
        bare |= o == e;
      }
      if (!bare) {
        text.append(";hedge ").append(e);
      }
    }
    HedgesAndDitches x = new HedgesAndDitches();
    for (String part : text.toString().split(";")) {
      if (read(x, part) != 1) {
        throw new IllegalStateException(part);
      }
    }
    return x;
  }

  // ---- 1 to 8: SHELVES

  private static void aNewObject() {
    HedgesAndDitches x = new HedgesAndDitches();
    int[] states = {2, 2, 0, 0, 0, 0, 0, 0, 0, 1, 0, 12, 0, 0, 0, 0, 0};
    for (int what = 0; what < states.length; what++) {
      due("status(" + what + ")", x.status(what), states[what]);
    }
    for (int s = 0; s < 8; s++) {
      due("holds", x.holds(s), NONE);
    }
    refused("playerOf", x, () -> x.playerOf(0, 0), -2);
    refused("back", x, () -> x.back(), -5);
    due("wipe", x.wipe(), 0);
    due("NONE", NONE, -1);
  }

  private static void row() {
    HedgesAndDitches x = new HedgesAndDitches();
    due("row(0, 0, 0)", x.row(0, 0, 0), 1);
    due("row(7, 4, 40)", x.row(7, 4, 40), 1);
    due("holds(7)", x.holds(7), 4);
    refused("row(8, 0, 0)", x, () -> x.row(8, 0, 0), -2);
    refused("row(-1, 0, 0)", x, () -> x.row(-1, 0, 0), -2);
    refused("row(0, 5, 0)", x, () -> x.row(0, 5, 0), -2);
    refused("row(0, -1, 0)", x, () -> x.row(0, -1, 0), -2);
    refused("row(0, 0, 41)", x, () -> x.row(0, 0, 41), -2);
    refused("row(0, 0, -1)", x, () -> x.row(0, 0, -1), -2);
    due("refusals", refusals(x, -2), 6);
    x.row(1, 2, 3);
    x.set(1, 2, 9);
    x.row(1, 2, 3);
    due("a new row's element", x.element(1, 2), 0);
    x.player(0, 0);
    x.show(1, 0);
    due("a row where a player was", x.row(1, 3, 1), 1);
    due("holds(1)", x.holds(1), 3);
  }

  private static void set() {
    HedgesAndDitches x = new HedgesAndDitches();
    long[] puts = {255, 32768, 4294967297L, Long.MIN_VALUE, 256};
    long[] wants = {-1, -32768, 1, Long.MIN_VALUE, 1};
    for (int sort = 0; sort < 5; sort++) {
      x.row(sort, sort, 2);
      due("set", x.set(sort, 1, puts[sort]), 1);
      due("element, sort " + sort, x.element(sort, 1), wants[sort]);
      due("element beside", x.element(sort, 0), 0);
      due("set", x.set(sort, 1, 0), 1);
      due("element", x.element(sort, 1), 0);
    }
    x.set(0, 0, 384);
    due("a byte", x.element(0, 0), -128);
    x.set(4, 0, -1);
    due("a boolean", x.element(4, 0), 1);
    refused("set(8, ..)", x, () -> x.set(8, 0, 0), -2);
    refused("set(-1, ..)", x, () -> x.set(-1, 0, 0), -2);
    refused("set at 2", x, () -> x.set(0, 2, 0), -2);
    refused("set at -1", x, () -> x.set(0, -1, 0), -2);
    refused("set, NOTHING ahead of BAD i", x, () -> x.set(7, -1, 0), -4);
    x.player(0, 0);
    x.show(7, 0);
    refused("set, OTHER ahead of BAD i", x, () -> x.set(7, -1, 0), -3);
    due("refusals -2", refusals(x, -2), 4);
    due("refusals -3", refusals(x, -3), 1);
    due("refusals -4", refusals(x, -4), 1);
  }

  private static void copy() {
    HedgesAndDitches x = new HedgesAndDitches();
    tell(x, 0, 1, 2, 3, 4, 5);
    x.row(1, 2, 3);
    due("copy", x.copy(0, 1, 2, 0, 3), 3);
    due("element", x.element(1, 0), 3);
    due("element", x.element(1, 2), 5);
    due("copy over itself", x.copy(0, 0, 0, 1, 4), 4);
    for (int i = 0; i < 4; i++) {
      due("as they were", x.element(0, i + 1), i + 1);
    }
    due("copy of none at the end", x.copy(0, 1, 5, 3, 0), 0);
    refused("copy too far from", x, () -> x.copy(0, 1, 3, 0, 3), -2);
    refused("copy too far to", x, () -> x.copy(0, 1, 0, 1, 3), -2);
    refused("copy of none beyond the end", x, () -> x.copy(0, 1, 6, 0, 0), -2);
    refused("copy n -1", x, () -> x.copy(0, 1, 0, 0, -1), -2);
    refused("copy i -1", x, () -> x.copy(0, 1, -1, 0, 1), -2);
    refused("copy j -1", x, () -> x.copy(0, 1, 0, -1, 1), -2);
    refused("copy far", x, () -> x.copy(0, 1, Integer.MAX_VALUE, 0, 2), -2);
    refused("copy much", x, () -> x.copy(0, 1, 1, 1, Integer.MAX_VALUE), -2);
    x.row(2, 3, 3);
    refused("two SORTS ahead of BAD", x, () -> x.copy(0, 2, -1, 0, 1), -3);
    refused("NOTHING ahead of BAD", x, () -> x.copy(0, 3, -1, 0, 1), -4);
    refused("NOTHING from", x, () -> x.copy(3, 0, 0, 0, 0), -4);
    x.player(0, 0);
    x.show(4, 0);
    refused("OTHER ahead of NOTHING", x, () -> x.copy(3, 4, 0, 0, 0), -3);
    refused("OTHER ahead of NOTHING", x, () -> x.copy(4, 3, 0, 0, 0), -3);
    refused("OTHER, two PLAYERS", x, () -> x.copy(4, 4, 0, 0, 0), -3);
    refused("BAD SHELF ahead of OTHER", x, () -> x.copy(4, 8, 0, 0, 0), -2);
    refused("BAD SHELF ahead of OTHER", x, () -> x.copy(-1, 4, 0, 0, 0), -2);
  }

  private static void element() {
    HedgesAndDitches x = new HedgesAndDitches();
    tell(x, 0, 7);
    due("element", x.element(0, 0), 7);
    due("element(0, 1)", x.element(0, 1), 0);
    due("element(0, -1)", x.element(0, -1), 0);
    due("element(1, 0)", x.element(1, 0), 0);
    due("element(8, 0)", x.element(8, 0), 0);
    due("element(-1, 0)", x.element(-1, 0), 0);
    x.player(0, 9);
    x.show(0, 0);
    due("element of a PLAYER", x.element(0, 0), 0);
    x.show(0, NONE);
    due("element of NOTHING", x.element(0, 0), 0);
    for (int why = -6; why <= -2; why++) {
      due("nothing is refused", refusals(x, why), 0);
    }
  }

  private static void holds() {
    HedgesAndDitches x = told("player 0 0; player 1 1");
    for (int sort = 0; sort < 5; sort++) {
      x.row(3, sort, 1);
      due("holds", x.holds(3), sort);
    }
    x.show(3, 1);
    due("holds a PLAYER", x.holds(3), 11);
    due("holds(8)", x.holds(8), NONE);
    due("holds(-1)", x.holds(-1), NONE);
    due("nothing is refused", refusals(x, -2), 0);
  }

  private static void show() {
    HedgesAndDitches x = told("player 0 3");
    due("show", x.show(0, 0), 1);
    due("holds", x.holds(0), 10);
    refused("show BAD PLAYER", x, () -> x.show(0, 1), -2);
    refused("show BAD PLAYER", x, () -> x.show(0, -2), -2);
    due("it still holds", x.holds(0), 10);
    due("show NONE", x.show(0, NONE), 1);
    due("holds", x.holds(0), NONE);
    refused("show BAD SHELF", x, () -> x.show(8, 0), -2);
    refused("show BAD SHELF", x, () -> x.show(-1, NONE), -2);
    x.row(1, 0, 4);
    due("show over a ROW", x.show(1, 0), 1);
    due("holds", x.holds(1), 10);
  }

  private static void says() {
    HedgesAndDitches x =
        told("player 0 7; player 1 1; player 2 3; player 3 2; player 4 9; player 5 4; hedge 0; hedge 2; hedge 6");
    for (int p = 0; p < 6; p++) {
      x.show(p, p);
    }
    int[][] wants = {
      {7, -3, -3, -3, -3, -3},
      {1, 7, -3, -3, -3, -3},
      {3, -3, 100, -3, -3, -3},
      {2, 7, -3, 7, -3, -3},
      {9, -3, 100, -3, 100, -3},
      {4, -3, -3, -3, -3, 13}
    };
    for (int p = 0; p < 6; p++) {
      for (int kind = 0; kind < 6; kind++) {
        due("says(" + p + ", " + kind + ")", x.says(p, kind), wants[p][kind]);
      }
    }
    due("a DRAW in thought", x.status(9), 1);
    refused("says BAD SHELF", x, () -> x.says(8, 0), -2);
    refused("says BAD KIND", x, () -> x.says(6, 6), -2);
    refused("says BAD KIND", x, () -> x.says(0, -1), -2);
    refused("says NOTHING", x, () -> x.says(6, 0), -4);
    x.row(7, 0, 0);
    refused("says OTHER", x, () -> x.says(7, 0), -3);
    HedgesAndDitches y = told("size 1 1; player 1 0; player 5 0; hedge 0; hedge 1; hedge 2; hedge 3");
    y.show(0, 0);
    y.show(1, 1);
    due("says, over", y.says(0, 1), NONE);
    due("says CHANCE, over", y.says(1, 5), 0);
    due("NONE isn't refused", refusals(y, -2) + refusals(y, -5), 0);
  }

  // ---- 9 to 14: the board, PLAYERS and THE TAPE

  private static void size() {
    HedgesAndDitches x = told("hedge 3; dig 1; hedge 4; player 0 0");
    due("size(1, 1)", x.size(1, 1), 4);
    due("nothing on it", x.status(2) + x.status(3) + x.status(5) + x.status(6), 0);
    due("PLAYERS stay", x.status(7), 1);
    due("size(4, 1)", x.size(4, 1), 13);
    due("size(3, 2)", x.size(3, 2), 17);
    due("size(4, 4)", x.size(4, 4), 40);
    refused("size(0, 4)", x, () -> x.size(0, 4), -2);
    refused("size(5, 4)", x, () -> x.size(5, 4), -2);
    refused("size(4, 0)", x, () -> x.size(4, 0), -2);
    refused("size(4, 5)", x, () -> x.size(4, 5), -2);
    due("as it was", x.status(11), 40);
    x.move(0);
    x.move(1);
    x.move(2);
    due("size of the same", x.size(4, 4), 40);
    due("TURN", x.status(5), 0);
  }

  private static void player() {
    HedgesAndDitches x = new HedgesAndDitches();
    refused("player(6, 0)", x, () -> x.player(6, 0), -2);
    refused("player(-1, 0)", x, () -> x.player(-1, 0), -2);
    refused("player(0, 10)", x, () -> x.player(0, 10), -2);
    refused("player(0, -1)", x, () -> x.player(0, -1), -2);
    for (int p = 0; p < 6; p++) {
      due("player", x.player(p, 9 - p), p);
    }
    refused("player, FULL", x, () -> x.player(0, 0), -6);
    refused("player, BAD ahead of FULL", x, () -> x.player(6, 0), -2);
    due("refusals", refusals(x, -6), 1);
  }

  private static void turn() {
    HedgesAndDitches x = new HedgesAndDitches();
    due("turn(1)", x.turn(1), 0);
    due("turn(1)", x.turn(1), 1);
    due("turn(0)", x.turn(0), 1);
    refused("turn(2)", x, () -> x.turn(2), -2);
    refused("turn(-1)", x, () -> x.turn(-1), -2);
    due("TURN", x.status(5), 0);
    due("MOVES", x.status(6), 0);
  }

  private static void feed() {
    HedgesAndDitches x = new HedgesAndDitches();
    refused("feed(256)", x, () -> x.feed(256), -2);
    refused("feed(-1)", x, () -> x.feed(-1), -2);
    for (int i = 1; i <= 250; i++) {
      due("feed", x.feed(i % 2 == 0 ? 0 : 255), i);
    }
    refused("feed, FULL", x, () -> x.feed(0), -6);
    refused("feed, BAD ahead of FULL", x, () -> x.feed(256), -2);
    due("THE TAPE's size", x.status(8), 250);
  }

  private static void wipe() {
    HedgesAndDitches x = new HedgesAndDitches();
    due("wipe", x.wipe(), 0);
    x.feed(1);
    x.feed(2);
    due("wipe", x.wipe(), 2);
    due("wipe", x.wipe(), 0);
    due("feed", x.feed(3), 1);
  }

  private static void fault(String text, int place) {
    HedgesAndDitches x = told("player 0 0; hedge 3");
    due("board of '" + text + "'", read(x, text), -20 - place);
    due("refused", refusals(x, -2), 1);
    due("nothing of '" + text + "'", x.status(0) * 100 + x.status(2) * 10 + x.status(3), 210);
    due("no PLAYER of '" + text + "'", x.status(7), 1);
    due("whose TURN, behind '" + text + "'", x.status(5), 1);
    due("THE TAPE behind '" + text + "'", x.status(8), 0);
  }

  private static void board() {
    HedgesAndDitches x = new HedgesAndDitches();
    due("board", read(x, "size 3 2"), 1);
    due("board, tight", read(x, "turn1;hedge0;dig5;player5 9"), 4);
    due("TURN", x.status(5), 1);
    due("MOVES", x.status(6), 2);
    due("PLAYERS", x.playerOf(0, 0) * 10 + x.playerOf(0, 1), 59);
    due("THE TAPE", x.status(8), 0);
    due("board, wide", read(x, "   dig   04  ;  turn   00 "), 2);
    due("DUG", x.fieldOf(4, 1), 1);
    due("all comes to what there is", read(x, "size 2 2;hedge 0;size 1 1;hedge 0;hedge 1"), 5);
    due("W", x.status(0), 1);
    due("HEDGES", x.status(2), 2);
    due("an OWNER", read(x, "hedge 2;turn 1;hedge 3"), 3);
    due("OWNER", x.fieldOf(0, 2), 1);
    fault("", 0);
    fault("   ", 3);
    fault(";turn 0", 0);
    fault("turn 0;", 7);
    fault("turn 0 ; ", 9);
    fault("turn 0;;turn 0", 7);
    fault("turn", 4);
    fault("turn  ", 6);
    fault("turn 2", 5);
    fault("turn 001", 5);
    fault("turn x", 5);
    fault("turn;", 4);
    fault("turn 0 turn 0", 7);
    fault("turn 0 1", 7);
    fault("turns 0", 0);
    fault("tur", 0);
    fault("Turn 0", 0);
    fault("7", 0);
    fault("turn 0!", 6);
    fault("turn\t0", 4);
    fault("size 0 1", 5);
    fault("size 1 5", 7);
    fault("size 11", 5);
    fault("size 1", 6);
    fault("size 1;hedge 0", 6);
    fault("hedge 3", 6);
    fault("hedge 12", 6);
    fault("hedge 1;hedge 1", 14);
    fault("hedge 100", 6);
    fault("dig 4", 4);
    fault("dig 101", 4);
    fault("dig 0;dig 0", 10);
    fault("size 1 1;hedge 0;hedge 1;hedge 2;hedge 3;dig 0", 45);
    fault("player 6 0", 7);
    fault("player 0 10", 9);
    fault("player 0", 8);
    fault("player 1 1;player 1 1;turn 3", 27);
    fault("player 0 0;player 0 0;player 0 0;player 0 0;player 0 0;player 9", 55);
    HedgesAndDitches y = new HedgesAndDitches();
    y.feed(233);
    due("board of a strange byte", y.board(), -20);
    due("what has room", read(y, "player 0 0;player 0 1;player 0 2;player 0 3;player 0 4;player 0 5"), 6);
    due("no room", read(y, "turn 0;player 0 0"), -27);
    due("not FULL", refusals(y, -6), 0);
  }

  // ---- 15 to 40: what is there

  private static void fieldOf() {
    HedgesAndDitches x = told("size 3 2;hedge 0;hedge 3;hedge 9;hedge 10;dig 4");
    int[] zero = {4, 0, 1, 1, 0, 3, 9, 10, 1};
    int[] four = {0, 1, NONE, NONE, 4, 7, 14, 15, 1};
    for (int what = 0; what <= 8; what++) {
      due("fieldOf(0, " + what + ")", x.fieldOf(0, what), zero[what]);
      due("fieldOf(4, " + what + ")", x.fieldOf(4, what), four[what]);
    }
    due("fieldOf(1, 0)", x.fieldOf(1, 0), 1);
    refused("fieldOf(6, 0)", x, () -> x.fieldOf(6, 0), -2);
    refused("fieldOf(-1, 0)", x, () -> x.fieldOf(-1, 0), -2);
    refused("fieldOf(0, 9)", x, () -> x.fieldOf(0, 9), -2);
    refused("fieldOf(0, -1)", x, () -> x.fieldOf(0, -1), -2);
    due("NONE isn't refused", refusals(x, -2), 4);
    HedgesAndDitches y = told("size 3 3");
    due("no RIM", y.fieldOf(4, 8), 0);
    due("RIM", y.fieldOf(5, 8), 1);
    HedgesAndDitches beside = told("size 3 1;hedge 0;hedge 3;hedge 6;hedge 7;dig 1");
    due("OWNER beside a DITCH that DRAINS", beside.fieldOf(0, 2), 1);
    due("no COLOUR beside a DITCH that DRAINS", beside.fieldOf(0, 3), NONE);
    read(beside, "hedge 1;hedge 4");
    due("a COLOUR beside a DITCH that doesn't DRAIN", beside.fieldOf(0, 3), 1);
  }

  private static void edgeOf() {
    HedgesAndDitches x = told("size 3 2;hedge 4");
    due("edgeOf(4, 0)", x.edgeOf(4, 0), 1);
    due("edgeOf(3, 0)", x.edgeOf(3, 0), 0);
    int[][] sides = {
      {0, NONE, 0}, {4, 1, 4}, {8, 5, NONE}, {9, NONE, 0}, {10, 0, 1}, {12, 2, NONE}, {13, NONE, 3}, {15, 4, 5}, {16, 5, NONE}
    };
    for (int[] s : sides) {
      due("edgeOf(" + s[0] + ", 1)", x.edgeOf(s[0], 1), s[1]);
      due("edgeOf(" + s[0] + ", 2)", x.edgeOf(s[0], 2), s[2]);
    }
    due("NONE isn't refused", refusals(x, -2), 0);
    refused("edgeOf(17, 0)", x, () -> x.edgeOf(17, 0), -2);
    refused("edgeOf(-1, 0)", x, () -> x.edgeOf(-1, 0), -2);
    refused("edgeOf(0, 3)", x, () -> x.edgeOf(0, 3), -2);
    refused("edgeOf(0, -1)", x, () -> x.edgeOf(0, -1), -2);
  }

  private static void playerOf() {
    HedgesAndDitches x = told("player 4 7;player 2 0");
    due("playerOf(0, 0)", x.playerOf(0, 0), 4);
    due("playerOf(0, 1)", x.playerOf(0, 1), 7);
    due("playerOf(1, 0)", x.playerOf(1, 0), 2);
    refused("playerOf(2, 0)", x, () -> x.playerOf(2, 0), -2);
    refused("playerOf(-1, 0)", x, () -> x.playerOf(-1, 0), -2);
    refused("playerOf(0, 2)", x, () -> x.playerOf(0, 2), -2);
    refused("playerOf(0, -1)", x, () -> x.playerOf(0, -1), -2);
  }

  private static void may() {
    HedgesAndDitches x = told("hedge 0;hedge 2;hedge 6;hedge 7;dig 1");
    due("may(0)", x.may(0), 0);
    due("may(1)", x.may(1), 1);
    due("may(11)", x.may(11), 1);
    due("may(100), SHUT", x.may(100), 0);
    due("may(101), DUG", x.may(101), 0);
    due("may(103)", x.may(103), 1);
    due("a HEDGE beside a DUG FIELD", x.may(8), 1);
    for (int none : new int[] {12, 99, 104, -1, 44, Integer.MIN_VALUE, Integer.MAX_VALUE}) {
      refused("may(" + none + ")", x, () -> x.may(none), -2);
    }
  }

  private static void moves() {
    HedgesAndDitches x = told("size 1 1;hedge 1");
    due("moves(NONE)", x.moves(NONE), 4);
    int[] all = {0, 2, 3, 100};
    for (int i = 0; i < 4; i++) {
      due("moves(" + i + ")", x.moves(i), all[i]);
    }
    refused("moves(4)", x, () -> x.moves(4), -5);
    refused("moves(100000)", x, () -> x.moves(100000), -5);
    refused("moves(-2)", x, () -> x.moves(-2), -2);
    read(x, "hedge 0;hedge 2;hedge 3");
    due("over", x.moves(NONE), 0);
    refused("over", x, () -> x.moves(0), -5);
    x.size(4, 4);
    due("most", x.moves(NONE), 56);
    due("moves(55)", x.moves(55), 115);
  }

  /** A level row of three, all shut by 0, and a fourth FIELD shut by 1. */
  private static final String LANE_OF_0 =
      "size 4 1;hedge 0;hedge 1;hedge 2;hedge 3;hedge 4;hedge 5;hedge 6;hedge 7;hedge 8;hedge 9;hedge 10;"
          + "turn 0;hedge 11;turn 1;hedge 12";

  private static void score() {
    HedgesAndDitches x = told("size 1 3;turn 0;hedge 0;turn 0;hedge 4;turn 0;hedge 5;turn 0;hedge 1");
    due("one FIELD", x.score(0), 1);
    due("one FIELD", x.score(1), 0);
    read(x, "hedge 6;hedge 7;turn 0;hedge 2;hedge 8;hedge 9;turn 0;hedge 3");
    due("three FIELDS", x.score(0), 3);
    due("the other one's LANE", x.score(1), 1);
    refused("score(2)", x, () -> x.score(2), -2);
    refused("score(-1)", x, () -> x.score(-1), -2);
  }

  private static void lead() {
    HedgesAndDitches x = told(LANE_OF_0);
    int his = x.score(0) - x.score(1);
    due("lead(0)", x.lead(0), his);
    due("lead(1)", x.lead(1), -his);
    refused("lead(2)", x, () -> x.lead(2), -1002);
    refused("lead(-1)", x, () -> x.lead(-1), -1002);
    due("refusals", refusals(x, -2), 2);
    HedgesAndDitches y = told("size 1 1;hedge 0;hedge 1;hedge 2;hedge 3");
    due("lead(0)", y.lead(0), -1);
    due("lead(1)", y.lead(1), 1);
  }

  /** All of a board's FIELDS shut by one: every MOVE is made at his TURN. */
  private static HedgesAndDitches allOf(int p, int w, int h) {
    HedgesAndDitches x = new HedgesAndDitches();
    int edges = x.size(w, h);
    for (int e = 0; e < edges; e++) {
      x.turn(p);
      x.move(e);
    }
    return x;
  }

  private static void lanes() {
    int[][] boards = {{1, 1, 0}, {2, 2, 0}, {3, 1, 1}, {1, 3, 1}, {4, 1, 2}, {3, 2, 2}, {3, 3, 6}, {4, 2, 4}, {4, 4, 16}};
    for (int[] b : boards) {
      HedgesAndDitches x = allOf(1, b[0], b[1]);
      due("lanes(1) of " + b[0] + " by " + b[1], x.lanes(1), b[2]);
      due("lanes(0) of " + b[0] + " by " + b[1], x.lanes(0), 0);
      due("score(0)", x.score(0), b[2]);
      due("score(1)", x.score(1), b[0] * b[1]);
    }
    HedgesAndDitches x = new HedgesAndDitches();
    refused("lanes(2)", x, () -> x.lanes(2), -2);
    refused("lanes(-1)", x, () -> x.lanes(-1), -2);
  }

  private static void ditch() {
    HedgesAndDitches x = told("size 3 3;dig 0;dig 1;dig 4;dig 8;hedge 12;hedge 13");
    due("ditch(0), HEDGES or not", x.ditch(0), bits(0, 1, 4));
    due("ditch(4)", x.ditch(4), bits(0, 1, 4));
    due("ditch(8)", x.ditch(8), bits(8));
    refused("ditch(2)", x, () -> x.ditch(2), -5);
    refused("ditch(9)", x, () -> x.ditch(9), -2);
    refused("ditch(-1)", x, () -> x.ditch(-1), -2);
    HedgesAndDitches rows = told("size 3 2;dig 2;dig 3");
    due("the ends of two ROWS", rows.ditch(2), bits(2));
  }

  private static void drained() {
    HedgesAndDitches x = told("size 3 3;dig 4");
    due("inside", x.drained(), 0);
    read(x, "dig 3");
    due("one at the RIM", x.drained(), bits(3, 4));
    read(x, "hedge 16");
    due("its EDGE at the RIM", x.drained(), 0);
    read(x, "dig 6;dig 2");
    due("another one of it", x.drained(), bits(2, 3, 4, 6));
    read(x, "hedge 9");
    due("a corner has two", x.drained(), bits(2, 3, 4, 6));
    read(x, "hedge 20;hedge 2");
    due("one DITCH of two", x.drained(), bits(2));
  }

  private static void thirds() {
    HedgesAndDitches x = told("hedge 0;hedge 2");
    due("two", x.thirds(), 0);
    read(x, "hedge 6");
    due("three", x.thirds(), 1);
    read(x, "hedge 1;hedge 3");
    due("three, and two", x.thirds(), 1);
    read(x, "hedge 8");
    due("both", x.thirds(), 3);
    read(x, "hedge 7");
    due("four", x.thirds(), 0);
  }

  private static void chain() {
    HedgesAndDitches x = told("size 4 1;hedge 0;hedge 1;hedge 2;hedge 4;hedge 5;hedge 6;hedge 8");
    due("chain(0)", x.chain(0), 3);
    due("chain(1), two HEDGES", x.chain(1), 0);
    refused("chain(4)", x, () -> x.chain(4), -2);
    refused("chain(-1)", x, () -> x.chain(-1), -2);
    read(x, "hedge 3;hedge 7;hedge 12");
    due("the last is SHUT along with the one ahead of it", x.chain(0), 3);
    due("from the other end", x.chain(3), 3);
    read(x, "hedge 10");
    due("two lack the same EDGE", x.chain(0), 1);
    due("two lack the same EDGE", told("size 2 1;hedge 0;hedge 1;hedge 2;hedge 3;hedge 4;hedge 6").chain(0), 1);
    HedgesAndDitches y = told("size 1 1;hedge 0;hedge 1;hedge 2");
    due("out of the board", y.chain(0), 1);
    read(y, "hedge 3");
    due("SHUT", y.chain(0), 0);
  }

  private static void longest() {
    HedgesAndDitches x = new HedgesAndDitches();
    due("none", x.longest(), 0);
    read(x, "hedge 3;hedge 10;hedge 11");
    due("one", x.longest(), 3);
    read(x, "hedge 0;hedge 2;hedge 6");
    due("of several the first", x.longest(), 0);
    read(x, "hedge 8");
    due("a CHAIN of two", x.chain(0), 2);
    read(x, "size 4 1;hedge 0;hedge 5;hedge 4;hedge 3;hedge 7;hedge 12;hedge 2;hedge 6");
    due("no longer than", x.longest(), 3);
    due("it", x.chain(3), 2);
    due("not it", x.chain(0), 0);
  }

  private static void shuts() {
    HedgesAndDitches x = told("hedge 0;hedge 2;hedge 6;hedge 1;hedge 3;hedge 8");
    due("two", x.shuts(7), 2);
    due("none", x.shuts(4), 0);
    refused("STUCK", x, () -> x.shuts(0), -5);
    refused("BAD", x, () -> x.shuts(12), -2);
    refused("BAD", x, () -> x.shuts(-1), -2);
    due("in thought", x.status(2), 6);
  }

  private static void calm() {
    HedgesAndDitches x = told("size 1 1");
    due("bare", x.calm(), 4);
    read(x, "hedge 0");
    due("one", x.calm(), 3);
    read(x, "hedge 1");
    due("two", x.calm(), 0);
    read(x, "hedge 2");
    due("three: what shuts it", x.calm(), 1);
    read(x, "hedge 3");
    due("over", x.calm(), 0);
    HedgesAndDitches y = told("size 4 1;hedge 0;hedge 4;hedge 8");
    due("only what shuts the first", y.calm(), 1);
    read(y, "hedge 3;hedge 7;hedge 12");
    due("no one shuts both", y.calm(), 0);
  }

  private static void part() {
    HedgesAndDitches x = told("size 3 2;hedge 10;hedge 14");
    due("part(0)", x.part(0), bits(0, 3));
    due("part(1)", x.part(1), bits(1, 2, 4, 5));
    read(x, "hedge 4;hedge 5;hedge 15");
    due("part(4)", x.part(4), bits(4));
    due("part(2)", x.part(2), bits(1, 2));
    refused("part(6)", x, () -> x.part(6), -2);
    refused("part(-1)", x, () -> x.part(-1), -2);
  }

  private static void parts() {
    HedgesAndDitches x = new HedgesAndDitches();
    due("one", x.parts(), 1);
    read(x, "hedge 2;hedge 3;hedge 0;hedge 8");
    due("two", x.parts(), 2);
    read(x, "hedge 7;hedge 10");
    due("four", x.parts(), 4);
  }

  private static void ditches() {
    HedgesAndDitches x = told("size 3 3");
    due("none", x.ditches(), 0);
    read(x, "dig 0;dig 2;dig 4;dig 6;dig 8");
    due("five", x.ditches(), 5);
    read(x, "dig 1;hedge 13");
    due("over HEDGES", x.ditches(), 3);
  }

  private static void ownedAndColoured() {
    HedgesAndDitches x = told("size 3 1;hedge 0;hedge 3;hedge 6;hedge 7;hedge 1;hedge 4;hedge 8");
    promise = 33;
    due("owned(0)", x.owned(0), bits(1));
    due("owned(1)", x.owned(1), bits(0));
    refused("owned(2)", x, () -> x.owned(2), -2);
    refused("owned(-1)", x, () -> x.owned(-1), -2);
    promise = 34;
    due("coloured(0)", x.coloured(0), bits(1));
    due("coloured(1)", x.coloured(1), bits(0));
    read(x, "dig 2");
    due("beside a DITCH that DRAINS", x.coloured(0), 0);
    due("not beside it", x.coloured(1), bits(0));
    refused("coloured(2)", x, () -> x.coloured(2), -2);
    refused("coloured(-1)", x, () -> x.coloured(-1), -2);
    promise = 33;
    due("owned all the same", x.owned(0), bits(1));
  }

  private static void gives() {
    HedgesAndDitches x = told("hedge 0;hedge 6;hedge 1;hedge 8");
    due("two", x.gives(7), 2);
    due("one", x.gives(2), 1);
    due("none", x.gives(4), 0);
    read(x, "hedge 2");
    due("one has three already", x.gives(3), 1);
    due("one has three and is SHUT, one gets three", x.gives(7), 1);
    refused("STUCK", x, () -> x.gives(0), -5);
    refused("BAD", x, () -> x.gives(12), -2);
    refused("BAD", x, () -> x.gives(-1), -2);
  }

  private static void gaps() {
    HedgesAndDitches x = new HedgesAndDitches();
    due("all", x.gaps(), 8);
    read(x, "hedge 2;hedge 3;hedge 7;hedge 10");
    due("inside", x.gaps(), 8);
    read(x, "hedge 0;hedge 11");
    due("less two", x.gaps(), 6);
    due("size 4 3", told("size 4 3").gaps(), 14);
  }

  private static void rim() {
    due("2 by 2", new HedgesAndDitches().rim(), 15);
    due("3 by 3", told("size 3 3").rim(), 511 - 16);
    due("4 by 1", told("size 4 1").rim(), 15);
    due("4 by 3", told("size 4 3").rim(), 4095 - bits(5, 6));
    due("HEDGES or not", told("size 1 1;hedge 0").rim(), 1);
  }

  private static void leader() {
    due("both", new HedgesAndDitches().leader(), NONE);
    due("0", allOf(0, 2, 2).leader(), 0);
    due("1", allOf(1, 2, 2).leader(), 1);
    due("LANES are less than FIELDS here", allOf(0, 4, 1).leader(), 0);
    HedgesAndDitches x = allOf(0, 4, 4);
    due("LANES as many as FIELDS", x.leader(), NONE);
    due("NONE isn't refused", refusals(x, -2), 0);
  }

  private static void bare() {
    HedgesAndDitches x = new HedgesAndDitches();
    due("all", x.bare(), 15);
    read(x, "hedge 7");
    due("two", x.bare(), bits(2, 3));
    read(x, "dig 2");
    due("DUG or not", x.bare(), bits(2, 3));
  }

  private static void soft() {
    HedgesAndDitches x = told("dig 1;hedge 0;hedge 2;hedge 6");
    due("soft", x.soft(), bits(0, 2, 3));
    read(x, "hedge 7");
    due("SHUT", x.soft(), bits(2, 3));
  }

  // ---- 41 to 51: what comes of it

  private static void bestOfAll() {
    HedgesAndDitches x = told("size 1 1");
    int[] afters = {1, 1, 1, 1};
    for (int e = 0; e < 4; e++) {
      promise = 41;
      due("after(" + e + ")", x.after(e), afters[e]);
    }
    due("after(100)", x.after(100), 1);
    refused("after(4)", x, () -> x.after(4), -1002);
    refused("after(101)", x, () -> x.after(101), -1002);
    promise = 42;
    due("best", x.best(), 0);
    promise = 43;
    due("worth", x.worth(), 1);
    read(x, "hedge 0;hedge 1");
    due("to dig turns it", x.worth(), 1);
    promise = 41;
    due("after(2)", x.after(2), -1);
    due("after(3)", x.after(3), -1);
    promise = 42;
    due("best, the last", x.best(), 100);
    read(x, "hedge 2");
    promise = 41;
    refused("after(0)", x, () -> x.after(0), -1005);
    due("after(3)", x.after(3), 1);
    due("after(100)", x.after(100), -1);
    promise = 42;
    due("best, not the first", x.best(), 3);
    promise = 43;
    due("worth", x.worth(), 1);
    read(x, "hedge 3");
    promise = 41;
    refused("over", x, () -> x.after(3), -1005);
    promise = 42;
    due("over", x.best(), NONE);
    promise = 43;
    due("over", x.worth(), -1);
    due("REFUSALS", refusals(x, -5), 2);
    HedgesAndDitches y = told("size 2 1;hedge 0");
    promise = 41;
    refused("more than 7, BAD first", y, () -> y.after(7), -1002);
    refused("more than 7", y, () -> y.after(1), -1005);
    promise = 42;
    refused("more than 7", y, () -> y.best(), -5);
    promise = 43;
    refused("more than 7", y, () -> y.worth(), -1005);
    read(y, "hedge 1");
    due("just 7", y.worth(), y.after(y.best()));
    due("in thought", y.status(6), 2);
  }

  /** What PLAYERS of each KIND would do on a board of one text. */
  private static void choices(String text, int... wants) {
    HedgesAndDitches x = told(text);
    int[] as = {0, 0, 2, 0, 2};
    for (int kind = 0; kind <= 4; kind++) {
      int p = x.player(kind, as[kind]);
      due("choice of KIND " + kind + " on '" + text + "'", x.choice(p), wants[kind]);
    }
  }

  private static void choice() {
    choices("size 2 2", 0, 0, 100, 0, 100);
    choices("hedge 0;hedge 2;hedge 6", 1, 7, 100, 7, 100);
    choices("hedge 0;hedge 6", 1, 1, 100, 1, 100);
    choices("hedge 0;hedge 1;hedge 6", 2, 2, 100, 3, 100);
    choices("size 1 1;hedge 0;hedge 1", 2, 2, 100, 2, 100);
    choices("size 2 1;hedge 4;hedge 5", 0, 0, 100, 1, 100);
    choices("size 1 2;hedge 0;hedge 1;hedge 3;hedge 4", 2, 2, 101, 2, 101);
    choices("size 1 2;hedge 2;hedge 1;hedge 5", 0, 6, 100, 6, 100);
    choices("size 3 2;hedge 3;hedge 6;hedge 9;hedge 13", 0, 14, 100, 14, 100);
    choices("size 2 2;hedge 9;hedge 10;hedge 6;hedge 8;hedge 3;hedge 1", 0, 7, 100, 7, 100);
    choices("size 2 2;hedge 9;hedge 10;hedge 0;hedge 1", 2, 2, 100, 3, 100);
    choices("dig 0;dig 3", 0, 0, 0, 0, 0);
    choices("dig 0", 0, 0, 101, 0, 101);
    choices("size 3 3;dig 0;hedge 1;hedge 13;hedge 14;hedge 4", 0, 0, 102, 0, 102);
    choices("size 1 1;hedge 0;hedge 1;hedge 2;hedge 3", NONE, NONE, NONE, NONE, NONE);
    choices("size 1 1;dig 0", 0, 0, 0, 0, 0);
    HedgesAndDitches x = told("size 3 3;player 2 9;player 4 9;dig 0;dig 1;dig 2;dig 3");
    due("DIGGER, inside", x.choice(0), 104);
    due("RIMMER, at the RIM", x.choice(1), 105);
    read(x, "dig 5;dig 6;dig 7;dig 8");
    due("RIMMER, none at the RIM", x.choice(1), 0);
    due("DIGGER, the last", x.choice(0), 104);
    refused("BAD", x, () -> x.choice(2), -2);
    refused("BAD", x, () -> x.choice(-1), -2);
    HedgesAndDitches y = told("player 5 0");
    int drawn = (1103515245 + 12345 >>> 16) % 16;
    due("CHANCE", y.choice(0), y.moves(drawn));
    due("CHANCE again", y.choice(0), y.moves(drawn));
    due("SEED", y.status(9), 1);
    read(y, "size 1 1;hedge 0;hedge 1;hedge 2;hedge 3");
    due("CHANCE, over", y.choice(0), NONE);
  }

  private static void played() {
    HedgesAndDitches x = told("size 1 1;player 0 0;player 2 1");
    due("MOVES", x.played(0, 0, 0), 4);
    due("LEAD of 0", x.played(0, 0, 1), -1);
    due("the first MOVE", x.played(0, 0, 2), 0);
    due("MOVES", x.played(1, 0, 0), 5);
    due("LEAD of 0", x.played(1, 0, 1), 1);
    due("the first MOVE", x.played(1, 0, 2), 100);
    due("MOVES, DIGGER second", x.played(0, 1, 0), 5);
    x.turn(1);
    due("LEAD of 0, TURN of 1", x.played(1, 0, 1), -1);
    read(x, "hedge 3");
    due("MOVES from now on", x.played(0, 0, 0), 3);
    due("in thought", x.status(6), 1);
    refused("BAD", x, () -> x.played(2, 0, 0), -1002);
    refused("BAD", x, () -> x.played(0, 2, 0), -1002);
    refused("BAD", x, () -> x.played(-1, 0, 0), -1002);
    refused("BAD", x, () -> x.played(0, 0, 3), -1002);
    refused("BAD", x, () -> x.played(0, 0, -1), -1002);
    read(x, "hedge 0;hedge 1;hedge 2");
    due("over: MOVES", x.played(0, 1, 0), 0);
    due("over: first", x.played(0, 1, 2), NONE);
    due("over: LEAD", x.played(0, 1, 1), x.lead(0));
    HedgesAndDitches y = told("player 5 0");
    due("by draws", y.played(0, 0, 2), y.choice(0));
    due("SEED in thought", y.status(9), 1);
  }

  private static void wins() {
    HedgesAndDitches x = told("size 1 1;player 0 0;player 2 1");
    due("one GAME won, one lost", x.wins(0), 0);
    x.player(5, 0);
    x.size(2, 2);
    x.player(3, 0);
    int both = x.played(0, 1, 1) - x.played(1, 0, 1) + x.played(0, 3, 1) - x.played(3, 0, 1);
    int more = both + x.played(0, 2, 1) - x.played(2, 0, 1);
    due("over all others", x.wins(0), more);
    x.turn(1);
    int turned = -x.played(0, 1, 1) + x.played(1, 0, 1) - x.played(0, 2, 1) + x.played(2, 0, 1);
    due("TURN of 1", x.wins(0), turned - x.played(0, 3, 1) + x.played(3, 0, 1));
    due("SEED in thought", x.status(9), 1);
    refused("wins(4)", x, () -> x.wins(4), -1002);
    refused("wins(-1)", x, () -> x.wins(-1), -1002);
    due("alone", told("player 1 1").wins(0), 0);
  }

  private static void champion() {
    HedgesAndDitches none = new HedgesAndDitches();
    refused("STUCK", none, () -> none.champion(), -5);
    due("of several the first", told("player 0 0;player 0 0;player 0 0").champion(), 0);
    HedgesAndDitches x = told("player 0 0;player 1 0;player 3 0;player 2 3;player 4 3;player 5 0");
    int[] wins = {-2, 4, 6, -2, -2, -4};
    for (int p = 0; p < 6; p++) {
      due("wins(" + p + ")", x.wins(p), wins[p]);
    }
    due("who wins most", x.champion(), 2);
    x.size(4, 1);
    due("CHANCE wins most", x.champion(), 5);
    x.size(3, 1);
    due("three win as much", x.champion(), 0);
    due("in thought", x.status(9) * 10 + x.status(6), 10);
  }

  /** ALIKE by 0 and, told them, by others; by no other. */
  private static void alikeBy(String text, int... others) {
    HedgesAndDitches x = told(text);
    int ways = x.status(0) == x.status(1) ? 8 : 4;
    for (int t = 0; t < ways; t++) {
      int want = t == 0 ? 1 : 0;
      for (int o : others) {
        want |= o == t ? 1 : 0;
      }
      due("alike(" + t + ") of '" + text + "'", x.alike(t), want);
    }
    due("likenesses of '" + text + "'", x.likenesses(), 1 + others.length);
  }

  private static void alikes() {
    HedgesAndDitches x = new HedgesAndDitches();
    promise = 48;
    due("bare", x.likenesses(), 8);
    read(x, "hedge 0");
    promise = 49;
    int[] one = {1, 0, 0, 0, 0, 0, 0, 0};
    for (int t = 0; t < 8; t++) {
      due("alike(" + t + ")", x.alike(t), one[t]);
    }
    read(x, "hedge 1");
    due("left and right", x.alike(1), 1);
    due("up and down", x.alike(2), 0);
    promise = 48;
    due("two", x.likenesses(), 2);
    promise = 49;
    read(x, "size 2 2;hedge 0;hedge 6");
    due("ROWS and COLUMNS", x.alike(4), 1);
    due("and mirrored", x.alike(5), 0);
    read(x, "dig 0");
    due("DUG", x.alike(4), 1);
    read(x, "dig 1");
    due("DUG one", x.alike(4), 0);
    alikeBy("size 2 2;hedge 1;hedge 9", 4);
    alikeBy("size 2 2;hedge 4;hedge 8", 4);
    alikeBy("size 2 2;hedge 4;hedge 9", 7);
    alikeBy("size 3 3;hedge 1;hedge 4", 1);
    alikeBy("size 3 3;hedge 0;hedge 9", 2);
    alikeBy("size 3 3;hedge 3;hedge 8", 3);
    alikeBy("size 3 3;hedge 13;hedge 14", 1);
    alikeBy("size 3 3;hedge 12;hedge 20", 2);
    alikeBy("size 3 3;hedge 13;hedge 22", 3);
    alikeBy("size 3 3;dig 1;dig 3", 4);
    alikeBy("size 3 3;dig 2;dig 4", 7);
    alikeBy("size 3 3;dig 5;dig 2;dig 8", 2);
    alikeBy("size 3 3;dig 6;dig 7;dig 8", 1);
    alikeBy("size 3 3;dig 1;dig 3;dig 5;dig 7;dig 0;dig 8", 3, 4, 7);
    alikeBy("size 3 3;hedge 0;hedge 15;hedge 11;hedge 20", 3, 5, 6);
    alikeBy("size 3 2;dig 1;dig 4;hedge 10;hedge 11", 1);
    read(x, "size 2 1;hedge 0;hedge 2;hedge 4;hedge 1;hedge 3;hedge 6;hedge 5");
    due("both SHUT by one HEDGE", x.alike(1), 1);
    read(x, "size 2 1;hedge 0;hedge 2;hedge 4;hedge 5;hedge 1;turn 0;hedge 3;hedge 6");
    due("OWNERS", x.owned(0) * 10 + x.owned(1), 3);
    due("one OWNER of two", x.alike(1), 1);
    read(x, "size 2 1;hedge 0;hedge 2;hedge 4;turn 0;hedge 5;hedge 1;hedge 3;turn 1;hedge 6");
    due("OWNERS", x.owned(0) * 10 + x.owned(1), 12);
    due("two OWNERS", x.alike(1), 0);
    due("up and down", x.alike(2), 1);
    refused("BAD, W and H unlike", x, () -> x.alike(4), -2);
    refused("BAD", x, () -> x.alike(8), -2);
    refused("BAD", x, () -> x.alike(-1), -2);
    promise = 48;
    due("unlike", x.likenesses(), 2);
  }

  private static void judge() {
    HedgesAndDitches x = new HedgesAndDitches();
    tell(x, 0, 0, 2, 6, 7, 100, 1);
    due("up to it", x.judge(0, 4), NONE);
    due("SHUT", x.judge(0, 5), 4);
    due("the first", x.judge(0, 6), 4);
    due("none", x.judge(0, 0), NONE);
    due("in thought", x.status(2), 0);
    refused("BAD SHELF", x, () -> x.judge(8, 0), -2);
    refused("BAD n", x, () -> x.judge(0, -1), -2);
    refused("BAD n", x, () -> x.judge(7, 41), -2);
    refused("fewer", x, () -> x.judge(0, 7), -2);
    refused("NOTHING", x, () -> x.judge(7, 40), -4);
    x.player(0, 0);
    x.show(7, 0);
    refused("OTHER", x, () -> x.judge(7, 40), -3);
    x.row(1, 3, 1);
    x.set(1, 0, 4294967296L);
    due("a long is no MOVE", x.judge(1, 1), 0);
    x.set(1, 0, -1);
    due("none such", x.judge(1, 1), 0);
    x.row(2, 4, 2);
    x.set(2, 0, 7);
    due("of booleans", x.judge(2, 2), NONE);
    tell(x, 3, 5, 5);
    due("twice", x.judge(3, 2), 1);
  }

  private static void behind() {
    HedgesAndDitches x = new HedgesAndDitches();
    tell(x, 0, 0, 2, 6, 7);
    due("1 shuts", x.behind(0, 4), -1);
    due("ahead of it", x.behind(0, 3), 0);
    x.turn(1);
    due("0 shuts", x.behind(0, 4), 1);
    refused("BAD SHELF", x, () -> x.behind(-1, 0), -1002);
    refused("BAD n", x, () -> x.behind(0, 41), -1002);
    refused("fewer", x, () -> x.behind(0, 5), -1002);
    refused("NOTHING", x, () -> x.behind(1, 0), -1004);
    x.player(0, 0);
    x.show(1, 0);
    refused("OTHER", x, () -> x.behind(1, 0), -1003);
    tell(x, 2, 0, 0);
    refused("WRONG", x, () -> x.behind(2, 2), -1005);
    due("REFUSALS", refusals(x, -2) * 1000 + refusals(x, -3) * 100 + refusals(x, -4) * 10 + refusals(x, -5), 3111);
    due("in thought", x.status(6), 0);
  }

  // ---- 52 to 59: in truth

  private static void done() {
    HedgesAndDitches x = told("hedge 11");
    tell(x, 0, 0, 2, 6, 7, 11);
    refused("WRONG", x, () -> x.done(0, 5), -5);
    due("nothing of it", x.status(2), 1);
    due("MOVES in all", x.done(0, 4), 5);
    due("HEDGES", x.status(2), 5);
    due("OWNER", x.fieldOf(0, 2), 0);
    due("TURN", x.status(5), 1);
    refused("again", x, () -> x.done(0, 1), -5);
    due("none", x.done(0, 0), 5);
    refused("BAD", x, () -> x.done(8, 0), -2);
    refused("BAD", x, () -> x.done(0, -1), -2);
    refused("fewer", x, () -> x.done(0, 6), -2);
    refused("NOTHING", x, () -> x.done(1, 9), -4);
    x.player(0, 0);
    x.show(1, 0);
    refused("OTHER", x, () -> x.done(1, 9), -3);
  }

  private static void move() {
    HedgesAndDitches x = told("hedge 0;hedge 2;hedge 6;hedge 1;hedge 3;hedge 8");
    due("two", x.move(7), 2);
    due("OWNER", x.owned(0), 3);
    due("TURN", x.status(5), 1);
    due("MOVES", x.status(6), 7);
    due("to dig", x.move(102), 0);
    due("DUG", x.fieldOf(2, 1), 1);
    refused("DUG already", x, () -> x.move(102), -5);
    refused("SHUT", x, () -> x.move(100), -5);
    refused("a HEDGE already", x, () -> x.move(7), -5);
    refused("BAD", x, () -> x.move(12), -2);
    refused("BAD", x, () -> x.move(99), -2);
    refused("BAD", x, () -> x.move(104), -2);
    refused("BAD", x, () -> x.move(-1), -2);
    due("MOVES", x.status(6), 8);
    due("SHUT FIELDS", x.status(4), 2);
  }

  private static void goes() {
    HedgesAndDitches x = told("player 2 1;player 5 0");
    due("goes", x.goes(0, 3), 3);
    due("DUG", x.status(3), 1);
    due("HEDGES", x.status(2), 2);
    due("TURN", x.status(5), 1);
    int chosen = x.choice(1);
    due("by a draw", x.goes(1, 1), 1);
    due("as it chose", x.may(chosen), 0);
    due("SEED", x.status(9), 1103515245 + 12345);
    int before = x.status(6);
    int made = x.goes(0, 40);
    due("to the end", x.status(6) - before, made);
    due("over", x.moves(NONE), 0);
    due("over", x.goes(0, 1), 0);
    refused("BAD", x, () -> x.goes(2, 1), -2);
    refused("BAD", x, () -> x.goes(-1, 1), -2);
    refused("BAD", x, () -> x.goes(0, 0), -2);
    refused("BAD", x, () -> x.goes(0, 41), -2);
    x.size(4, 4);
    due("40 of them", x.goes(0, 40), 40);
  }

  /** How often 0 has the greater SCORE, played in truth by CHANCE. */
  private static int gamesInTruth(HedgesAndDitches x, int n) {
    int won = 0;
    for (int i = 0; i < n; i++) {
      x.size(x.status(0), x.status(1));
      x.goes(0, 40);
      x.goes(0, 40);
      if (x.leader() == 0) {
        won++;
      }
    }
    return won;
  }

  private static void games() {
    int[][] sizes = {{1, 1}, {2, 2}, {3, 2}, {4, 4}};
    for (int[] wh : sizes) {
      HedgesAndDitches x = new HedgesAndDitches();
      HedgesAndDitches y = told("player 5 0");
      x.size(wh[0], wh[1]);
      y.size(wh[0], wh[1]);
      x.move(0);
      due("games", x.games(20), gamesInTruth(y, 20));
      due("the SEED goes on", x.status(9), y.status(9));
      due("the board is as it was", x.status(2) * 100 + x.status(6) * 10 + x.status(5), 111);
      due("games(1)", x.games(1), gamesInTruth(y, 1));
    }
    HedgesAndDitches x = new HedgesAndDitches();
    refused("BAD", x, () -> x.games(0), -2);
    refused("BAD", x, () -> x.games(21), -2);
    due("SEED", x.status(9), 1);
  }

  private static void seed() {
    HedgesAndDitches x = new HedgesAndDitches();
    due("seed", x.seed(Integer.MIN_VALUE), 1);
    due("seed", x.seed(-7), Integer.MIN_VALUE);
    due("status(9)", x.status(9), -7);
    x.size(3, 3);
    due("a new board", x.seed(0), -7);
  }

  private static void imageAndBack() {
    promise = 58;
    HedgesAndDitches x = told("size 3 1;player 1 2;hedge 4;dig 2");
    refused("STUCK", x, () -> x.back(), -5);
    x.seed(77);
    x.turn(1);
    promise = 57;
    due("image", x.image(), 1);
    due("again", x.image(), 1);
    x.player(5, 0);
    x.show(0, 0);
    x.show(1, 1);
    x.row(2, 0, 1);
    x.size(2, 2);
    x.goes(1, 5);
    x.feed(65);
    x.player(9, 9);
    promise = 58;
    due("back", x.back(), 1);
    int[] states = {3, 1, 1, 1, 0, 1, 2, 1, 1, 77, 2, 10, 1, 0, 0, 1, 0};
    for (int what = 0; what < states.length; what++) {
      due("status(" + what + ")", x.status(what), states[what]);
    }
    due("a SHELF of a PLAYER", x.holds(0), 10);
    due("a SHELF of none now", x.holds(1), NONE);
    due("a SHELF of a ROW", x.holds(2), 0);
    due("a HEDGE", x.edgeOf(4, 0), 1);
    due("DUG", x.fieldOf(2, 1), 1);
    x.player(3, 3);
    x.move(0);
    due("back once more", x.back(), 1);
    due("HEDGES", x.status(2), 1);
    due("PLAYERS", x.status(7), 1);
    due("the next number", x.player(4, 4), 1);
    due("its KIND", x.playerOf(1, 0), 4);
    due("the kept one's KIND", x.playerOf(0, 0), 1);
    HedgesAndDitches y = allOf(1, 2, 1);
    y.image();
    y.size(1, 1);
    y.back();
    due("OWNERS", y.owned(1), 3);
  }

  private static void status() {
    HedgesAndDitches x = told("size 3 2;hedge 0;hedge 3;hedge 9;hedge 10;dig 4;player 0 0;player 1 1");
    x.feed(9);
    x.feed(9);
    x.row(0, 0, 0);
    x.show(7, 1);
    x.seed(5);
    int[] states = {3, 2, 4, 1, 1, 1, 5, 2, 2, 5, 2, 17, 0, 0, 0, 0, 0};
    for (int what = 0; what < states.length; what++) {
      due("status(" + what + ")", x.status(what), states[what]);
    }
    x.size(0, 0);
    x.set(7, 0, 0);
    x.set(6, 0, 0);
    x.moves(99);
    x.worth();
    x.lead(5);
    for (int k = 0; k < 5; k++) {
      x.player(0, 0);
    }
    int[] refused = {2, 1, 1, 2, 1};
    for (int k = 0; k < 5; k++) {
      due("status(" + (12 + k) + ")", x.status(12 + k), refused[k]);
    }
    for (int other : new int[] {17, -1, -12, Integer.MAX_VALUE, Integer.MIN_VALUE}) {
      due("status(" + other + ")", x.status(other), NONE);
    }
    due("NONE isn't refused", x.status(12), 2);
  }

  private static void pits() {
    HedgesAndDitches x = hedgedNine(";dig 4");
    promise = 34;
    due("all hedged", x.coloured(0) + x.coloured(1), 511);
    promise = 24;
    due("no DITCH DRAINS", x.drained(), 0);
    HedgesAndDitches y = hedgedNine(";dig 4;dig 1", 1);
    due("one EDGE at the RIM", y.drained(), bits(1, 4));
    promise = 34;
    due("beside both", y.coloured(0) + y.coloured(1), bits(6, 8));
  }

  public static void main(String[] args) {
    Runnable[] all = {
      PromisesTest::aNewObject, PromisesTest::row, PromisesTest::set, PromisesTest::copy,
      PromisesTest::element, PromisesTest::holds, PromisesTest::show, PromisesTest::says,
      PromisesTest::size, PromisesTest::player, PromisesTest::turn, PromisesTest::feed,
      PromisesTest::wipe, PromisesTest::board, PromisesTest::fieldOf, PromisesTest::edgeOf,
      PromisesTest::playerOf, PromisesTest::may, PromisesTest::moves, PromisesTest::score,
      PromisesTest::lead, PromisesTest::lanes, PromisesTest::ditch, PromisesTest::drained,
      PromisesTest::thirds, PromisesTest::chain, PromisesTest::longest, PromisesTest::shuts,
      PromisesTest::calm, PromisesTest::part, PromisesTest::parts, PromisesTest::ditches
    };
    for (Runnable one : all) {
      promise++;
      one.run();
    }
    ownedAndColoured();
    promise = 35;
    gives();
    promise = 36;
    gaps();
    promise = 37;
    rim();
    promise = 38;
    leader();
    promise = 39;
    bare();
    promise = 40;
    soft();
    bestOfAll();
    promise = 44;
    choice();
    promise = 45;
    played();
    promise = 46;
    wins();
    promise = 47;
    champion();
    alikes();
    promise = 50;
    judge();
    promise = 51;
    behind();
    promise = 52;
    done();
    promise = 53;
    move();
    promise = 54;
    goes();
    promise = 55;
    games();
    promise = 56;
    seed();
    imageAndBack();
    promise = 59;
    status();
    pits();
    System.out.println(wrong == 0 ? "all promises hold" : wrong + " answers are not as due");
    if (wrong != 0) {
      System.exit(1);
    }
  }
}
