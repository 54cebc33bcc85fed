/** What promises 15 to 40 say of what there is, at each boundary they name. */
public final class LookBoundaryTest {
  private static final Bench t = new Bench(15, 40);
  private static final String[] FAR = {"MIN", "MAX"};

  public static void main(String[] args) {
    inThought();
    fieldOf();
    colours();
    edgeOf();
    playerOf();
    may();
    moves();
    score();
    lead();
    lanes();
    ditch();
    drained();
    thirds();
    chain();
    longest();
    shuts();
    calm();
    part();
    parts();
    ditches();
    owned();
    coloured();
    gives();
    gaps();
    rim();
    leader();
    bare();
    soft();
    t.end();
  }

  /** All FIELDS of a board shut by one. */
  private static String allOf(int p, int w, int h) {
    StringBuilder script = new StringBuilder("size(" + w + ", " + h + ")");
    int edges = (h + 1) * w + h * (w + 1);
    for (int e = 0; e < edges; e++) {
      script.append(" turn(").append(p).append(") h").append(e);
    }
    return script.toString();
  }

  /** A board with HEDGES on all EDGES but some. */
  private static String hedgedBut(int w, int h, int... open) {
    StringBuilder script = new StringBuilder("size(" + w + ", " + h + ")");
    int edges = (h + 1) * w + h * (w + 1);
    for (int e = 0; e < edges; e++) {
      boolean bare = false;
      for (int o : open) {
        bare |= o == e;
      }
      if (!bare) {
        script.append(" h").append(e);
      }
    }
    return script.toString();
  }

  private static void badSeats(String name, long want) {
    t.on(Scenes.ALL);
    t.refused(name + "(-1)", want);
    t.refused(name + "(2)", want);
    t.refused(name + "(MIN)", want);
    t.refused(name + "(MAX)", want);
  }

  /** FIELDS that are none on boards of 1 by 1, of 3 by 2 and of 4 by 4. */
  private static void badFields(String name, String more) {
    t.on(Scenes.ALL);
    t.refused(name + "(-1" + more + ")", -2);
    t.refused(name + "(6" + more + ")", -2);
    t.refused(name + "(104" + more + ")", -2);
    for (String far : FAR) {
      t.refused(name + "(" + far + more + ")", -2);
    }
    t.on("size(1, 1) d0 h0 h1 h2");
    t.refused(name + "(1" + more + ")", -2);
    t.on("size(4, 4)");
    t.refused(name + "(16" + more + ")", -2);
    t.refused(name + "(32" + more + ")", -2);
  }

  private static void badEdges(String name, String more) {
    t.on(Scenes.ALL);
    t.refused(name + "(-1" + more + ")", -2);
    t.refused(name + "(17" + more + ")", -2);
    t.refused(name + "(100" + more + ")", -2);
    for (String far : FAR) {
      t.refused(name + "(" + far + more + ")", -2);
    }
    t.on("size(1, 1)");
    t.refused(name + "(4" + more + ")", -2);
    t.on("size(4, 4)");
    t.refused(name + "(40" + more + ")", -2);
    t.refused(name + "(64" + more + ")", -2);
  }

  /** To ask what there is changes nothing, and refuses nothing. */
  private static void inThought() {
    t.promise(15);
    String[] calls = {
      "fieldOf(4, 1)", "edgeOf(16, 2)", "playerOf(2, 1)", "may(101)", "moves(3)", "score(1)", "lead(1)", "lanes(0)",
      "ditch(4)", "drained()", "thirds()", "chain(1)", "longest()", "shuts(1)", "calm()", "part(5)", "parts()",
      "ditches()", "owned(1)", "coloured(1)", "gives(1)", "gaps()", "rim()", "leader()", "bare()", "soft()"
    };
    for (String call : calls) {
      t.asksSome(Scenes.ALL, call);
    }
  }

  private static void fieldOf() {
    t.promise(15);
    t.words("Of a FIELD: how many HEDGES (0), DUG (1; 1, 0), OWNER (2; NONE), COLOUR (3; NONE), its EDGES: above, below, left, right (4 to 7), whether an EDGE of it is at the RIM (8; 1, 0). BAD. (NONE isn't refused.)");
    badFields("fieldOf", ", 0");
    t.on(Scenes.ALL);
    t.refused("fieldOf(0, -1)", -2);
    t.refused("fieldOf(0, 9)", -2);
    t.refused("fieldOf(6, 9)", -2);
    for (String far : FAR) {
      t.refused("fieldOf(0, " + far + ")", -2);
    }
    int[][] all = {{4, 0, 1, 1, 0, 3, 9, 10, 1}, {1, 0, -1, -1, 1, 4, 10, 11, 1}, {0, 0, -1, -1, 5, 8, 15, 16, 1}};
    for (int what = 0; what <= 8; what++) {
      t.asks("fieldOf(0, " + what + ")", all[0][what]);
      t.asks("fieldOf(1, " + what + ")", all[1][what]);
      t.asks("fieldOf(5, " + what + ")", all[2][what]);
    }
    t.words("Each FIELD has four EDGES; an EDGE that has a FIELD on one side only is at the RIM.");
    int[][] last = {{1, 1, 0, 0, 1, 2, 3}, {4, 4, 15, 15, 19, 38, 39}, {4, 1, 3, 3, 7, 11, 12}, {1, 4, 3, 3, 4, 11, 12}};
    for (int[] of : last) {
      t.on("size(" + of[0] + ", " + of[1] + ")");
      for (int k = 0; k < 4; k++) {
        t.asks("fieldOf(" + of[2] + ", " + (4 + k) + ")", of[3 + k]);
      }
      t.asks("fieldOf(" + of[2] + ", 8)", 1);
    }
    t.on("size(4, 4)");
    int[] inside = {5, 6, 9, 10};
    for (int f = 0; f < 16; f++) {
      boolean in = false;
      for (int one : inside) {
        in |= one == f;
      }
      t.asks("fieldOf(" + f + ", 8)", in ? 0 : 1);
    }
    for (int n = 0; n <= 4; n++) {
      t.on("size(1, 1)" + " h0 h1 h2 h3".substring(0, 3 * n));
      t.asks("fieldOf(0, 0)", n);
    }
  }

  private static void colours() {
    t.words("COLOUR of a FIELD: its OWNER; NONE, if it has none, or if it is one of a DITCH that DRAINS, or lies beside (side by side) a FIELD of one.");
    t.on("size(2, 1) d0 h0 h2 h4 h5");
    t.asks("fieldOf(0, 2)", 0);
    t.asks("fieldOf(0, 3)", 0);
    t.on("size(2, 1) d0 h0 h2 h4 h5 d1");
    t.asks("fieldOf(0, 2)", 0);
    t.asks("fieldOf(0, 3)", -1);
    t.on("size(2, 1) d0 h0 h2 h4 h5 d1 h1 h3");
    t.asks("fieldOf(0, 3)", -1);
    t.on("size(2, 1) d0 h0 h2 h4 h5 d1 h1 h3 h6");
    t.asks("fieldOf(0, 3)", 0);
    t.asks("fieldOf(1, 3)", 0);
    t.on("h0 h2 h6 h7 d3");
    t.asks("fieldOf(0, 3)", 1);
    t.on("h0 h2 h6 h7 d1");
    t.asks("fieldOf(0, 3)", -1);
    t.on("h0 h2 h6 h7 d2");
    t.asks("fieldOf(0, 3)", -1);
    t.on("h10 h3 h5 h11 d1");
    t.asks("fieldOf(3, 3)", -1);
    t.on("h10 h3 h5 h11 d2");
    t.asks("fieldOf(3, 3)", -1);
    t.on("h10 h3 h5 h11 d0");
    t.asks("fieldOf(3, 3)", 1);
    t.on("size(3, 3) h0 h3 h12 h13 d4");
    t.asks("fieldOf(0, 3)", 1);
    t.on("size(3, 3) h0 h3 h12 h13 d4 d1");
    t.asks("fieldOf(0, 3)", -1);
    t.on("size(3, 3) h1 h4 h13 h14 d4");
    t.asks("fieldOf(1, 3)", 1);
    t.on("size(3, 3) h1 h4 h13 h14 d4 d7");
    t.asks("fieldOf(1, 3)", -1);
    t.on("size(3, 2) h2 h5 h11 h12 d3");
    t.asks("fieldOf(2, 3)", 1);
    t.on("size(3, 2) h3 h6 h13 h14 d2");
    t.asks("fieldOf(3, 3)", 1);
  }

  private static void edgeOf() {
    t.promise(16);
    t.words("Of an EDGE: whether it bears a HEDGE (0; 1, 0), its FIELDS: above or left (1; NONE), below or right (2; NONE). BAD. (NONE isn't refused.)");
    badEdges("edgeOf", ", 0");
    t.on(Scenes.ALL);
    t.refused("edgeOf(0, -1)", -2);
    t.refused("edgeOf(0, 3)", -2);
    t.refused("edgeOf(17, 3)", -2);
    for (String far : FAR) {
      t.refused("edgeOf(0, " + far + ")", -2);
    }
    t.asks("edgeOf(0, 0)", 1);
    t.asks("edgeOf(1, 0)", 0);
    t.asks("edgeOf(16, 0)", 0);
    t.words("EDGES: first the level ones, by rows: in each of H and 1 rows W of them");
    t.words("then the upright ones: in each of H rows W and 1");
    int[][] edges = {
      {1, 1, 0, -1, 0}, {1, 1, 1, 0, -1}, {1, 1, 2, -1, 0}, {1, 1, 3, 0, -1},
      {1, 4, 0, -1, 0}, {1, 4, 1, 0, 1}, {1, 4, 4, 3, -1}, {1, 4, 5, -1, 0}, {1, 4, 6, 0, -1}, {1, 4, 12, 3, -1},
      {4, 1, 3, -1, 3}, {4, 1, 4, 0, -1}, {4, 1, 7, 3, -1}, {4, 1, 8, -1, 0}, {4, 1, 9, 0, 1}, {4, 1, 12, 3, -1},
      {4, 4, 0, -1, 0}, {4, 4, 3, -1, 3}, {4, 4, 4, 0, 4}, {4, 4, 15, 11, 15}, {4, 4, 16, 12, -1},
      {4, 4, 19, 15, -1}, {4, 4, 20, -1, 0}, {4, 4, 21, 0, 1}, {4, 4, 24, 3, -1}, {4, 4, 25, -1, 4},
      {4, 4, 38, 14, 15}, {4, 4, 39, 15, -1},
      {3, 2, 8, 5, -1}, {3, 2, 9, -1, 0}, {3, 2, 12, 2, -1}, {3, 2, 13, -1, 3}, {3, 2, 16, 5, -1}
    };
    for (int[] e : edges) {
      t.on("size(" + e[0] + ", " + e[1] + ")");
      t.asks("edgeOf(" + e[2] + ", 1)", e[3]);
      t.asks("edgeOf(" + e[2] + ", 2)", e[4]);
    }
    t.on("size(4, 4) h39");
    t.asks("edgeOf(39, 0)", 1);
    t.asks("edgeOf(38, 0)", 0);
  }

  private static void playerOf() {
    t.promise(17);
    t.words("Of a PLAYER: KIND (0), a (1). BAD.");
    t.on(Scenes.ALL);
    t.refused("playerOf(-1, 0)", -2);
    t.refused("playerOf(3, 0)", -2);
    t.refused("playerOf(0, -1)", -2);
    t.refused("playerOf(0, 2)", -2);
    for (String far : FAR) {
      t.refused("playerOf(" + far + ", 0)", -2);
      t.refused("playerOf(0, " + far + ")", -2);
    }
    int[][] players = {{1, 4}, {2, 9}, {5, 0}};
    for (int p = 0; p < 3; p++) {
      t.asks("playerOf(" + p + ", 0)", players[p][0]);
      t.asks("playerOf(" + p + ", 1)", players[p][1]);
    }
    t.on("");
    t.refused("playerOf(0, 0)", -2);
    t.on("player(0, 1) player(1, 2) player(2, 3) player(3, 4) player(4, 5) player(5, 6)");
    t.asks("playerOf(5, 0)", 5);
    t.asks("playerOf(5, 1)", 6);
    t.refused("playerOf(6, 0)", -2);
  }

  private static void may() {
    t.promise(18);
    t.words("Whether a MOVE MAY be: 1, 0. BAD: no such MOVE.");
    t.on(Scenes.ALL);
    for (String none : new String[] {"-1", "17", "40", "99", "106", "116", "140", "MIN", "MAX"}) {
      t.refused("may(" + none + ")", -2);
    }
    t.words("A MOVE is a number: an EDGE, or 100 and a FIELD. It MAY be: a HEDGE on an EDGE that bears none; to DIG a FIELD that isn't DUG and isn't SHUT.");
    t.asks("may(0)", 0);
    t.asks("may(1)", 1);
    t.asks("may(16)", 1);
    t.asks("may(100)", 0);
    t.asks("may(101)", 1);
    t.asks("may(104)", 0);
    t.asks("may(105)", 1);
    t.on("size(1, 1)");
    t.asks("may(3)", 1);
    t.refused("may(4)", -2);
    t.asks("may(100)", 1);
    t.refused("may(101)", -2);
    t.on("size(4, 4)");
    t.asks("may(39)", 1);
    t.refused("may(40)", -2);
    t.asks("may(115)", 1);
    t.refused("may(116)", -2);
    t.words("SHUT: all four EDGES bear HEDGES.");
    t.on("size(1, 1) h0 h1 h2");
    t.asks("may(100)", 1);
    t.on("size(1, 1) h0 h1 h2 h3");
    t.asks("may(100)", 0);
    t.asks("may(3)", 0);
    t.on("size(1, 1) d0");
    t.asks("may(100)", 0);
    t.asks("may(0)", 1);
    t.on("size(1, 1) d0 h0 h1 h2 h3");
    t.asks("may(100)", 0);
  }

  private static void moves() {
    t.promise(19);
    t.words("MOVES that MAY be: how many (i NONE), the i-th. BAD; STUCK: not so many.");
    t.on(Scenes.ALL);
    t.refused("moves(-2)", -2);
    t.refused("moves(MIN)", -2);
    t.asks("moves(NONE)", 17);
    t.asks("moves(0)", 1);
    t.asks("moves(12)", 16);
    t.asks("moves(13)", 101);
    t.asks("moves(16)", 105);
    t.refused("moves(17)", -5);
    t.refused("moves(64)", -5);
    t.refused("moves(MAX)", -5);
    t.on("");
    t.asks("moves(NONE)", 16);
    t.asks("moves(11)", 11);
    t.asks("moves(12)", 100);
    t.asks("moves(15)", 103);
    t.refused("moves(16)", -5);
    t.on("size(4, 4)");
    t.asks("moves(NONE)", 56);
    t.asks("moves(39)", 39);
    t.asks("moves(40)", 100);
    t.asks("moves(55)", 115);
    t.refused("moves(56)", -5);
    t.words("The GAME is over, if nothing MAY be.");
    t.on("size(1, 1) h0 h1 h2 h3");
    t.asks("moves(NONE)", 0);
    t.refused("moves(0)", -5);
    t.refused("moves(-2)", -2);
    t.on("size(1, 1) h0 h1 h2 d0");
    t.asks("moves(NONE)", 1);
    t.asks("moves(0)", 3);
    t.refused("moves(1)", -5);
  }

  /** FIELDS 0, 1 and 3 of a row of four are of 0, FIELD 2 is of 1. */
  private static final String PARTED =
      "size(4, 1) h0 h4 h8 turn(0) h9 h1 h5 turn(0) h10 h3 h7 h12 turn(0) h11 h6 turn(1) h2 ";

  /** FIELDS 2, 3 and 4 of 3 by 2, one behind the other by numbers, but not in a row. */
  private static final String ROUND_THE_END = "size(3, 2) h2 h5 h11 turn(0) h12 h3 h6 h13 turn(0) h14 h4 h7 turn(0) h15 ";

  /** The upper row of 3 by 2 is SHUT by 0; FIELD 4, below its middle, is DUG and DRAINS. */
  private static final String BROKEN =
      "size(3, 2) h0 h3 h9 turn(0) h10 h1 h4 turn(0) h11 h2 h5 turn(0) h12 d4 ";

  private static void score() {
    t.promise(20);
    t.words("SCORE of one. BAD.");
    badSeats("score", -2);
    t.on(Scenes.ALL);
    t.asks("score(0)", 0);
    t.asks("score(1)", 1);
    t.words("SCORE of one: FIELDS of his COLOUR, and LANES of the other one's.");
    int[][] all = {{2, 1, 2, 0}, {3, 1, 3, 1}, {4, 1, 4, 2}, {1, 3, 3, 1}, {1, 4, 4, 2}, {4, 4, 16, 16}, {3, 3, 9, 6}};
    for (int[] of : all) {
      t.on(allOf(0, of[0], of[1]));
      t.asks("score(0)", of[2]);
      t.asks("score(1)", of[3]);
      t.on(allOf(1, of[0], of[1]));
      t.asks("score(1)", of[2]);
      t.asks("score(0)", of[3]);
    }
    t.on(PARTED);
    t.asks("score(0)", 3);
    t.asks("score(1)", 1);
    t.on(BROKEN);
    t.asks("score(0)", 2);
    t.asks("score(1)", 0);
  }

  private static void lead() {
    t.promise(21);
    t.words("LEAD of one. -1002.");
    t.words("(Calls that tell a LEAD answer -1000 and the number.)");
    badSeats("lead", -1002);
    t.on(Scenes.ALL);
    t.asks("lead(0)", -1);
    t.asks("lead(1)", 1);
    t.words("LEAD of one: his SCORE less that of the other.");
    t.on(PARTED);
    t.asks("lead(0)", 2);
    t.asks("lead(1)", -2);
    t.on(allOf(1, 4, 4));
    t.asks("lead(0)", 0);
    t.asks("lead(1)", 0);
    t.on(allOf(1, 4, 1));
    t.asks("lead(0)", -2);
    t.asks("lead(1)", 2);
    t.on("");
    t.asks("lead(0)", 0);
  }

  private static void lanes() {
    t.promise(22);
    t.words("LANES of one's COLOUR. BAD.");
    badSeats("lanes", -2);
    t.words("LANE: three FIELDS in a row, or one below the other, all of one COLOUR.");
    int[][] all = {{1, 1, 0}, {2, 1, 0}, {1, 2, 0}, {2, 2, 0}, {3, 1, 1}, {1, 3, 1}, {4, 1, 2}, {1, 4, 2}, {3, 2, 2}, {2, 3, 2}, {4, 2, 4}, {4, 4, 16}};
    for (int[] of : all) {
      t.on(allOf(1, of[0], of[1]));
      t.asks("lanes(1)", of[2]);
      t.asks("lanes(0)", 0);
    }
    t.on(PARTED);
    t.asks("lanes(0)", 0);
    t.asks("lanes(1)", 0);
    t.on(ROUND_THE_END);
    t.asks("coloured(0)", 28);
    t.asks("lanes(0)", 0);
    t.on(BROKEN);
    t.asks("owned(0)", 7);
    t.asks("lanes(0)", 0);
    t.on(BROKEN + "h6 h7 h8");
    t.asks("lanes(0)", 1);
    t.on("size(4, 2) h2 h6 h14 turn(0) h15 h3 h7 turn(0) h16 h4 h8 h17 turn(0) h18 h5 h9 turn(0) h19");
    t.asks("coloured(0)", 60);
    t.asks("lanes(0)", 0);
  }

  private static void ditch() {
    t.promise(23);
    t.words("FIELDS (bits) of the DITCH a DUG FIELD is of. BAD; STUCK: it isn't DUG.");
    badFields("ditch", "");
    t.on(Scenes.ALL);
    t.asks("ditch(4)", 16);
    t.refused("ditch(0)", -5);
    t.refused("ditch(5)", -5);
    t.words("A DITCH: DUG FIELDS that hang together side by side (HEDGES or not).");
    t.on("size(1, 1) d0");
    t.asks("ditch(0)", 1);
    t.on("size(4, 4) d0 d1 d2 d3 d4 d5 d6 d7 d8 d9 d10 d11 d12 d13 d14 d15");
    t.asks("ditch(0)", 65535);
    t.asks("ditch(15)", 65535);
    t.on("d0 d3");
    t.asks("ditch(0)", 1);
    t.asks("ditch(3)", 8);
    t.refused("ditch(1)", -5);
    t.on("d0 h7 d1");
    t.asks("ditch(0)", 3);
    t.on("d0 h2 d2");
    t.asks("ditch(2)", 5);
    t.on("size(3, 2) d2 d3");
    t.asks("ditch(2)", 4);
    t.asks("ditch(3)", 8);
    t.on("size(4, 4) d0 d1 d2 d3 d7 d11 d10 d9 d8 d12 d13 d14 d15");
    t.asks("ditch(15)", 65423);
    t.on("d0 h0 h2 h6 h7 d1");
    t.asks("ditch(1)", 3);
  }

  private static void drained() {
    t.promise(24);
    t.words("FIELDS (bits) that are of DITCHES that DRAIN.");
    t.words("It DRAINS, if some FIELD of it has an EDGE at the RIM that bears no HEDGE.");
    String[][] boards = {
      {"", "0"}, {"size(1, 1) d0", "1"}, {"size(1, 1) d0 h0 h1 h2", "1"}, {"size(1, 1) d0 h0 h1 h2 h3", "0"},
      {"size(3, 3) d4", "0"}, {"size(3, 3) d4 d1", "18"}, {"size(3, 3) d4 d1 h1", "0"},
      {"size(3, 3) d4 d0", "1"}, {"size(3, 3) d4 d0 h0", "1"}, {"size(3, 3) d4 d0 h0 h12", "0"},
      {"size(3, 3) d4 d7 d1 h1", "146"}, {"size(3, 3) d4 d7 d1 h1 h10", "0"},
      {"size(3, 3) d0 d8 h0 h12", "256"}, {"size(3, 3) d4 d3 h17", "24"}, {"size(3, 3) d4 h4 h7 h17 h18", "0"},
      {"size(4, 4) d5 d6 d9 d10", "0"}, {"size(4, 4) d5 d6 d9 d10 d14", "18016"},
      {"size(4, 4) d0 d1 d2 d3 d4 d5 d6 d7 d8 d9 d10 d11 d12 d13 d14 d15", "65535"}
    };
    for (String[] of : boards) {
      t.on(of[0]);
      t.asks("drained()", Long.parseLong(of[1]));
    }
  }

  private static void thirds() {
    t.promise(25);
    t.words("THIRDS: FIELDS (bits) with just three HEDGES.");
    t.words("THIRDS.");
    String[][] boards = {
      {"size(1, 1)", "0"}, {"size(1, 1) h0 h1", "0"}, {"size(1, 1) h0 h1 h2", "1"}, {"size(1, 1) h0 h1 h3", "1"},
      {"size(1, 1) h0 h2 h3", "1"}, {"size(1, 1) h1 h2 h3", "1"}, {"size(1, 1) h0 h1 h2 h3", "0"},
      {"h0 h6 h2 h1 h8 h3", "3"}, {"size(4, 4) h15 h19 h39", "32768"}, {"d0 h0 h2 h6", "1"}
    };
    for (String[] of : boards) {
      t.on(of[0]);
      t.asks("thirds()", Long.parseLong(of[1]));
    }
  }

  /** The EDGES that a way of all sixteen FIELDS goes over, row by row to and fro. */
  private static final int[] WAY = {21, 22, 23, 7, 28, 27, 26, 8, 31, 32, 33, 15, 38, 37, 36};
  private static final int[] WAY_OUT = {21, 22, 23, 7, 28, 27, 26, 8, 31, 32, 33, 15, 38, 37, 36, 35};

  private static void chain() {
    t.promise(26);
    t.words("CHAIN from a FIELD; 0: it has no three HEDGES just. BAD.");
    badFields("chain", "");
    t.on(Scenes.ALL);
    t.asks("chain(0)", 0);
    t.asks("chain(5)", 0);
    int[] lengths = {0, 0, 0, 1, 0};
    for (int n = 0; n <= 4; n++) {
      t.on("size(1, 1)" + " h0 h1 h2 h3".substring(0, 3 * n));
      t.asks("chain(0)", lengths[n]);
    }
    t.words("CHAIN from a FIELD with three HEDGES: how many FIELDS, not SHUT, can be SHUT one after the other, each by the last HEDGE it lacks, the next being the one on the other side of that EDGE, as long as it lacks just one then.");
    t.on("size(3, 1) h0 h3 h6");
    t.asks("chain(0)", 1);
    t.on("size(3, 1) h0 h3 h6 h1");
    t.asks("chain(0)", 1);
    t.on("size(3, 1) h0 h3 h6 h1 h4");
    t.asks("chain(0)", 2);
    t.asks("chain(1)", 0);
    t.on("size(3, 1) h0 h3 h6 h1 h4 h2 h5");
    t.asks("chain(0)", 3);
    t.on("size(3, 1) h0 h3 h6 h1 h4 h2 h5 h9");
    t.asks("chain(0)", 2);
    t.asks("chain(2)", 2);
    t.on("size(2, 1) h0 h1 h2 h3 h4 h6");
    t.asks("chain(0)", 1);
    t.asks("chain(1)", 1);
    t.on("size(1, 3) h0 h4 h5 h6 h7");
    t.asks("chain(0)", 2);
    t.on(hedgedBut(4, 4, WAY_OUT));
    t.asks("chain(0)", 16);
    t.asks("chain(12)", 0);
    t.on(hedgedBut(4, 4, WAY));
    t.asks("chain(0)", 15);
    t.asks("chain(12)", 15);
    t.asks("chain(5)", 0);
    t.on("d0 h0 h2 h6");
    t.asks("chain(0)", 1);
  }

  private static void longest() {
    t.promise(27);
    t.words("The FIELD of the longest CHAIN, of several the first (where no FIELD has a CHAIN, FIELD 0).");
    String[][] boards = {
      {"", "0"}, {Scenes.ALL, "0"}, {"size(1, 1) h0 h1 h2 h3", "0"}, {"h3 h5 h11", "3"}, {"h3 h5 h11 h0 h2 h6", "0"},
      {"h1 h3 h8 h2 h4 h9", "1"}, {"size(4, 1) h0 h4 h8 h3 h7 h12", "0"}, {"size(4, 1) h0 h4 h8 h3 h7 h12 h2 h6", "3"},
      {"size(4, 1) h0 h4 h8 h3 h7 h12 h2 h6 h1 h5", "0"}, {"size(4, 4) h15 h19 h39", "15"}
    };
    for (String[] of : boards) {
      t.on(of[0]);
      t.asks("longest()", Long.parseLong(of[1]));
    }
    t.on(hedgedBut(4, 4, WAY));
    t.asks("longest()", 0);
  }

  private static void shuts() {
    t.promise(28);
    t.words("How many FIELDS a HEDGE on an EDGE would SHUT. BAD; STUCK: it bears one.");
    badEdges("shuts", "");
    t.on(Scenes.ALL);
    t.refused("shuts(0)", -5);
    t.refused("shuts(10)", -5);
    t.asks("shuts(1)", 0);
    t.asks("shuts(16)", 0);
    t.on("h0 h2 h6");
    t.asks("shuts(7)", 1);
    t.on("h0 h2 h6 h1 h3 h8");
    t.asks("shuts(7)", 2);
    t.asks("shuts(4)", 0);
    t.on("h0 h2");
    t.asks("shuts(6)", 0);
    t.on("size(1, 2) h0 h2 h3 h4 h5 h6");
    t.asks("shuts(1)", 2);
    t.on("h0 h2 h6 h7 h1 h3");
    t.asks("shuts(8)", 1);
    t.on("size(4, 4) h15 h19 h38");
    t.asks("shuts(39)", 1);
  }

  private static void calm() {
    t.promise(29);
    t.words("How many HEDGES MAY be behind each of which no FIELD has just three.");
    String[][] boards = {
      {"size(1, 1)", "4"}, {"size(1, 1) h0", "3"}, {"size(1, 1) h0 h1", "0"}, {"size(1, 1) h0 h1 h2", "1"},
      {"size(1, 1) h0 h1 h2 h3", "0"}, {"size(4, 4)", "40"}, {"size(2, 1)", "7"}, {"size(2, 1) h0 h2", "3"},
      {"size(2, 1) h0 h2 h4", "1"}, {"size(2, 1) h0 h2 h4 h1", "1"}, {"size(2, 1) h0 h2 h4 h1 h3", "0"},
      {"size(2, 1) h0 h2 h4 h1 h3 h6", "1"}, {"size(3, 1) h0 h3 h6 h2 h5 h9", "0"},
      {"h0 h2 h6", "1"}, {"h0 h2", "8"}, {"d0 d1 d2 d3", "12"},
      {"size(1, 1) h0 h1 h3", "1"}, {"size(1, 1) h0 h2 h3", "1"}, {"size(1, 1) h1 h2 h3", "1"},
      {"size(1, 1) h0 h2", "0"}, {"size(1, 1) h0 h3", "0"}, {"size(1, 1) h1 h2", "0"}, {"size(1, 1) h1 h3", "0"},
      {"size(1, 1) h2 h3", "0"}, {"size(1, 1) h1", "3"}, {"size(1, 1) h2", "3"}, {"size(1, 1) h3", "3"}
    };
    for (String[] of : boards) {
      t.on(of[0]);
      t.asks("calm()", Long.parseLong(of[1]));
    }
  }

  private static void part() {
    t.promise(30);
    t.words("FIELDS (bits, itself too) that hang together with one side by side over EDGES that bear no HEDGES. BAD.");
    badFields("part", "");
    t.on(Scenes.ALL);
    t.asks("part(0)", 1);
    t.asks("part(5)", 62);
    t.on("size(1, 1)");
    t.asks("part(0)", 1);
    t.on("size(4, 4)");
    t.asks("part(0)", 65535);
    t.asks("part(15)", 65535);
    t.on("size(4, 4) h21 h26 h31");
    t.asks("part(0)", 65535);
    t.on("size(4, 4) h21 h26 h31 h36");
    t.asks("part(0)", 4369);
    t.asks("part(1)", 61166);
    t.on("size(4, 4) h4 h5 h6 h7");
    t.asks("part(3)", 15);
    t.asks("part(4)", 65520);
    t.on(hedgedBut(4, 4, WAY));
    t.asks("part(0)", 65535);
    t.asks("part(12)", 65535);
    t.on("size(3, 2) h11 h15 h3 h4");
    t.asks("part(0)", 3);
    t.asks("part(3)", 24);
    t.asks("part(5)", 36);
    t.on("size(3, 2) h11 h15 h3 h4 h5");
    t.asks("part(2)", 4);
    t.asks("part(5)", 32);
    t.on("d0 d1 h7");
    t.asks("part(0)", 15);
    t.on("h0 h2 h6 h7");
    t.asks("part(0)", 1);
  }

  private static void parts() {
    t.promise(31);
    t.words("How many such parts there are.");
    t.on("");
    t.asks("parts()", 1);
    t.on("size(1, 1) h0 h1 h2 h3");
    t.asks("parts()", 1);
    t.on(hedgedBut(4, 4));
    t.asks("parts()", 16);
    t.on(hedgedBut(4, 4, 38));
    t.asks("parts()", 15);
    t.on(hedgedBut(4, 4, 39));
    t.asks("parts()", 16);
    t.on(hedgedBut(4, 4, WAY));
    t.asks("parts()", 1);
    t.on("h7");
    t.asks("parts()", 1);
    t.on("h7 h10");
    t.asks("parts()", 2);
  }

  private static void ditches() {
    t.promise(32);
    t.words("How many DITCHES there are.");
    t.on("");
    t.asks("ditches()", 0);
    t.on("d3");
    t.asks("ditches()", 1);
    t.on("d0 d3");
    t.asks("ditches()", 2);
    t.on("d0 d3 d1 h7");
    t.asks("ditches()", 1);
    t.on("size(4, 4) d0 d2 d5 d7 d8 d10 d13 d15");
    t.asks("ditches()", 8);
    t.on("size(4, 4) d0 d1 d2 d3 d4 d5 d6 d7 d8 d9 d10 d11 d12 d13 d14 d15");
    t.asks("ditches()", 1);
    t.on("size(3, 2) d2 d3");
    t.asks("ditches()", 2);
  }

  private static void owned() {
    t.promise(33);
    t.words("FIELDS (bits) of which one is OWNER. BAD.");
    badSeats("owned", -2);
    t.on(Scenes.ALL);
    t.asks("owned(0)", 0);
    t.asks("owned(1)", 1);
    t.on(allOf(0, 4, 4));
    t.asks("owned(0)", 65535);
    t.asks("owned(1)", 0);
    t.on(PARTED);
    t.asks("owned(0)", 11);
    t.asks("owned(1)", 4);
    t.words("Each FIELD that becomes SHUT by a HEDGE gets who made the MOVE as OWNER.");
    t.on("h0 h2 h6 h1 h3 h8 turn(1) h7");
    t.asks("owned(1)", 3);
    t.on("h0 h2 h6 h1 h3 h8 turn(0) h7");
    t.asks("owned(0)", 3);
    t.on("h0 h2 turn(0) h6");
    t.asks("owned(0)", 0);
    t.on(BROKEN);
    t.asks("owned(0)", 7);
  }

  private static void coloured() {
    t.promise(34);
    t.words("FIELDS (bits) of one's COLOUR. BAD.");
    badSeats("coloured", -2);
    t.on(Scenes.ALL);
    t.asks("coloured(0)", 0);
    t.asks("coloured(1)", 1);
    t.on(allOf(1, 4, 4));
    t.asks("coloured(1)", 65535);
    t.asks("coloured(0)", 0);
    t.on(BROKEN);
    t.asks("coloured(0)", 5);
    t.on(BROKEN + "d3");
    t.asks("coloured(0)", 4);
    t.on(BROKEN + "d3 d5");
    t.asks("coloured(0)", 0);
    t.on(BROKEN + "d3 d5 h6 h7 h8 h13");
    t.asks("coloured(0)", 0);
    t.on(BROKEN + "d3 d5 h6 h7 h8 h13 h16");
    t.asks("coloured(0)", 7);
  }

  private static void gives() {
    t.promise(35);
    t.words("How many FIELDS that haven't just three HEDGES now would have behind a HEDGE on an EDGE. BAD; STUCK: it bears one.");
    badEdges("gives", "");
    t.on(Scenes.ALL);
    t.refused("gives(0)", -5);
    t.refused("gives(10)", -5);
    t.asks("gives(1)", 0);
    t.on("h0 h6 h1 h8");
    t.asks("gives(7)", 2);
    t.asks("gives(2)", 1);
    t.asks("gives(4)", 0);
    t.on("h0 h6 h2 h1 h8");
    t.asks("gives(7)", 1);
    t.asks("gives(3)", 1);
    t.asks("gives(11)", 0);
    t.on("h0 h6 h2 h1 h8 h3");
    t.asks("gives(7)", 0);
    t.asks("gives(10)", 0);
    t.on("h0");
    t.asks("gives(6)", 0);
    t.on("size(1, 1) h0 h1 h2");
    t.asks("gives(3)", 0);
    t.on("size(1, 1) h0 h1");
    t.asks("gives(3)", 1);
    t.on("size(4, 4) h15 h19 h38 h14");
    t.asks("gives(39)", 0);
    t.asks("gives(37)", 1);
    t.asks("gives(18)", 1);
    t.asks("gives(0)", 0);
    t.asks("gives(20)", 0);
  }

  private static void gaps() {
    t.promise(36);
    t.words("How many EDGES at the RIM bear no HEDGE.");
    int[][] sizes = {{1, 1, 4}, {2, 2, 8}, {4, 1, 10}, {1, 4, 10}, {3, 2, 10}, {4, 4, 16}, {2, 1, 6}};
    for (int[] of : sizes) {
      t.on("size(" + of[0] + ", " + of[1] + ")");
      t.asks("gaps()", of[2]);
      t.on(hedgedBut(of[0], of[1]));
      t.asks("gaps()", 0);
    }
    t.on("h2 h3 h7 h10");
    t.asks("gaps()", 8);
    t.on("h0");
    t.asks("gaps()", 7);
    t.on("size(4, 4) h39 h24 h25");
    t.asks("gaps()", 13);
  }

  private static void rim() {
    t.promise(37);
    t.words("FIELDS (bits) of which an EDGE is at the RIM.");
    int[][] sizes = {{1, 1, 1}, {2, 2, 15}, {4, 1, 15}, {1, 4, 15}, {2, 4, 255}, {3, 3, 495}, {4, 3, 3999}, {3, 4, 3951}, {4, 4, 63903}};
    for (int[] of : sizes) {
      t.on("size(" + of[0] + ", " + of[1] + ")");
      t.asks("rim()", of[2]);
    }
    t.on(hedgedBut(3, 3));
    t.asks("rim()", 495);
  }

  private static void leader() {
    t.promise(38);
    t.words("Who has the greater SCORE: 0, 1; NONE: both have as much.");
    t.on("");
    t.asks("leader()", -1);
    t.on(Scenes.ALL);
    t.asks("leader()", 1);
    t.on(allOf(0, 1, 1));
    t.asks("leader()", 0);
    t.on(allOf(0, 4, 1));
    t.asks("leader()", 0);
    t.on(allOf(0, 4, 4));
    t.asks("leader()", -1);
    t.on("h0 h2 h6 turn(0) h7 h3 h5 h11 turn(1) h10");
    t.asks("leader()", -1);
    t.on(allOf(1, 3, 3));
    t.asks("leader()", 1);
  }

  private static void bare() {
    t.promise(39);
    t.words("FIELDS (bits) with no HEDGES.");
    String[][] boards = {
      {"", "15"}, {"h0", "14"}, {"h7", "12"}, {"h7 h10", "0"}, {"size(4, 4)", "65535"}, {"size(4, 4) h39", "32767"},
      {"size(1, 1)", "1"}, {"size(1, 1) h3", "0"}, {"d0 d1 d2 d3", "15"}, {Scenes.ALL, "52"}
    };
    for (String[] of : boards) {
      t.on(of[0]);
      t.asks("bare()", Long.parseLong(of[1]));
    }
  }

  private static void soft() {
    t.promise(40);
    t.words("FIELDS (bits) that MAY be DUG.");
    String[][] boards = {
      {"", "15"}, {"d0", "14"}, {"d0 d1 d2 d3", "0"}, {"h0 h2 h6", "15"}, {"h0 h2 h6 h7", "14"},
      {"size(4, 4)", "65535"}, {"size(1, 1) h0 h1 h2 h3", "0"}, {Scenes.ALL, "46"}
    };
    for (String[] of : boards) {
      t.on(of[0]);
      t.asks("soft()", Long.parseLong(of[1]));
    }
  }
}
