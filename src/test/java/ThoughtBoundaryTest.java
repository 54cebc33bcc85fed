/** What promises 41 to 51 say of what comes of it, at each boundary they name. */
public final class ThoughtBoundaryTest {
  private static final Bench t = new Bench(41, 51);
  private static final String[] FAR = {"MIN", "MAX"};
  private static final String OVER = "size(1, 1) h0 h1 h2 h3 ";

  /** All four HEDGES of FIELD 0 as a told GAME, and what else there is to tell, in SHELVES. */
  private static final String FORTY = forty();

  public static void main(String[] args) {
    inThought();
    after();
    best();
    worth();
    choice();
    choiceOfKinds();
    diggers();
    draws();
    played();
    wins();
    champion();
    likenesses();
    alike();
    judge();
    judgeOrder();
    behind();
    t.end();
  }

  /** A ROW of forty MOVES that hedge all of a board of 4 by 4. */
  private static String forty() {
    StringBuilder script = new StringBuilder("size(4, 4) row(0, 2, 40) ");
    for (int i = 1; i < 40; i++) {
      script.append("set(0, ").append(i).append(", ").append(i).append(") ");
    }
    return script.toString();
  }

  /** What comes of it is found in thought, near the end of a GAME and far from it. */
  private static void inThought() {
    t.promise(41);
    t.words("WHAT COMES OF IT (in thought; nothing is changed)");
    String[] calls = {
      "after(2)", "after(100)", "best()", "worth()", "choice(0)", "choice(1)", "choice(2)", "played(2, 1, 0)",
      "played(1, 2, 1)", "played(2, 2, 2)", "wins(0)", "wins(2)", "champion()", "likenesses()", "alike(3)", "judge(0, 3)",
      "judge(4, 1)", "behind(4, 1)", "says(2, 2)"
    };
    String near = Scenes.busy("size(1, 1) h0 h1 set(4, 0, 100) ") + Scenes.TAPE;
    String far = Scenes.busy(Scenes.BOARD + "set(4, 0, 105) ") + Scenes.TAPE;
    for (String call : calls) {
      t.asksSome(near, call);
      if (!call.equals("best()") && !call.equals("worth()") && !call.startsWith("after(")) {
        t.asksSome(far, call);
      }
    }
  }

  private static void after() {
    t.promise(41);
    t.words("The LEAD at the end of him whose TURN it is, if he makes a MOVE now, and all goes on as with BEST. -1002 no such MOVE; -1005 it MAY not be, more than 7 MAY be now.");
    t.on("size(1, 1)");
    for (String none : new String[] {"-1", "4", "40", "99", "101", "MIN", "MAX"}) {
      t.refused("after(" + none + ")", -1002);
    }
    for (String move : new String[] {"0", "1", "2", "3", "100"}) {
      t.asks("after(" + move + ")", 1);
    }
    t.on("size(1, 1) h0 h1");
    t.refused("after(0)", -1005);
    t.refused("after(1)", -1005);
    t.asks("after(2)", -1);
    t.asks("after(3)", -1);
    t.asks("after(100)", 1);
    t.on("size(1, 1) h0 h1 d0");
    t.refused("after(100)", -1005);
    t.on("size(1, 1) h0 h1 h2");
    t.asks("after(3)", 1);
    t.asks("after(100)", -1);
    t.on(OVER);
    t.refused("after(0)", -1005);
    t.refused("after(100)", -1005);
    t.refused("after(4)", -1002);
    t.words("if no more than 7 MOVES MAY be");
    t.on("size(2, 1)");
    t.refused("after(0)", -1005);
    t.on("size(2, 1) h0");
    t.refused("after(1)", -1005);
    t.refused("after(0)", -1005);
    t.refused("after(100)", -1005);
    t.on("size(2, 1) d0 d1");
    int[] seven = {0, 0, 0, 0, 0, 2, 0};
    for (int move = 0; move < 7; move++) {
      t.asks("after(" + move + ")", seven[move]);
    }
    t.refused("after(100)", -1005);
    t.words("the first that fits as each line has them");
    t.on("");
    t.refused("after(12)", -1002);
    t.refused("after(104)", -1002);
    t.refused("after(-1)", -1002);
    t.on("size(2, 1) d0 d1 turn(1)");
    t.asks("after(5)", 2);
    t.asks("after(6)", 0);
    t.on(Scenes.busy("size(1, 1) h0 h1 "));
    t.asks("after(100)", 1);
    t.refused("after(0)", -1005);
    t.refused("after(4)", -1002);
  }

  private static void best() {
    t.promise(42);
    t.words("BEST: the MOVE (NONE: over). STUCK: more than 7 MOVES MAY be. (NONE isn't refused.)");
    t.words("the MOVE he makes now (of several the first, by numbers); NONE: the GAME is over");
    String[][] boards = {
      {"size(1, 1)", "0"}, {"size(1, 1) h0", "1"}, {"size(1, 1) h0 h1", "100"}, {"size(1, 1) h0 h1 h2", "3"},
      {"size(1, 1) h1 h2 h3", "0"}, {"size(1, 1) h0 h1 h2 d0", "3"}, {OVER, "-1"}, {OVER + "turn(1)", "-1"},
      {"size(2, 1) h0 h1", "2"}, {"size(2, 1) d0 d1", "5"}, {"size(2, 1) d0 d1 turn(1)", "5"},
      {"size(3, 1) d0 d1 d2 h0 h3 h6", "2"}, {"size(3, 1) h0 h3 turn(0) h6 turn(0) h7 h1 turn(0) h4", "8"},
      {"size(1, 2) h6 h1", "101"}, {"size(2, 2) h5 d1 d2 h1 h3 d0 d3 h10 h4", "11"},
      {"size(3, 1) h9 d0 h8 h2 h6 d1", "102"}, {Scenes.busy("size(1, 1) h0 h1 "), "100"}
    };
    for (String[] of : boards) {
      t.on(of[0]);
      t.asks("best()", Long.parseLong(of[1]));
    }
    t.on("");
    t.refused("best()", -5);
    t.on("size(2, 1) h0");
    t.refused("best()", -5);
    t.on("size(4, 4)");
    t.refused("best()", -5);
    t.on(Scenes.ALL);
    t.refused("best()", -5);
  }

  private static void worth() {
    t.promise(43);
    t.words("BEST: the LEAD at the end of him whose TURN it is. -1005.");
    t.words("whoever's TURN it is, and the other, each always make that by which his own LEAD at the end of the GAME is greatest");
    String[][] boards = {
      {"size(1, 1)", "1"}, {"size(1, 1) turn(1)", "1"}, {"size(1, 1) h0", "-1"}, {"size(1, 1) h0 h1", "1"},
      {"size(1, 1) h0 h1 d0", "-1"}, {"size(1, 1) h0 h1 h2", "1"}, {OVER, "-1"}, {OVER + "turn(1)", "1"},
      {"size(2, 1) h0 h1", "0"}, {"size(2, 1) d0 d1", "2"}, {"size(2, 1) d0 d1 turn(1)", "2"},
      {"size(2, 1) h0 h2 h4 h1", "0"}, {"size(3, 1) d0 d1 d2 h0 h3 h6", "1"},
      {"size(3, 1) h0 h3 turn(0) h6 turn(0) h7 h1 turn(0) h4", "1"},
      {"size(1, 3) h0 h4 h5 turn(0) h1 h6 h7 turn(0) h2 turn(0)", "1"},
      {"size(1, 2) h6 h1", "2"}, {"size(2, 2) h5 d1 d2 h1 h3 d0 d3 h10 h4", "2"},
      {"size(3, 1) h9 d0 h8 h2 h6 d1", "1"}, {Scenes.busy("size(1, 1) h0 h1 "), "1"}
    };
    for (String[] of : boards) {
      t.on(of[0]);
      t.asks("worth()", Long.parseLong(of[1]));
    }
    t.on("");
    t.refused("worth()", -1005);
    t.on("size(2, 1) h0");
    t.refused("worth()", -1005);
    t.on(Scenes.ALL);
    t.refused("worth()", -1005);
  }

  private static void choice() {
    t.promise(44);
    t.words("The MOVE a PLAYER would make; NONE: over. BAD. (NONE isn't refused.)");
    t.on(Scenes.ALL);
    t.refused("choice(-1)", -2);
    t.refused("choice(3)", -2);
    t.refused("choice(MIN)", -2);
    t.refused("choice(MAX)", -2);
    t.asks("choice(0)", 1);
    t.asks("choice(1)", 101);
    t.on("");
    t.refused("choice(0)", -2);
    String six = "player(0, 9) player(1, 9) player(2, 9) player(3, 9) player(4, 9) player(5, 9) ";
    t.on(six);
    t.refused("choice(6)", -2);
    t.on(six + OVER);
    for (int p = 0; p < 6; p++) {
      t.asks("choice(" + p + ")", -1);
    }
    t.on(six + "size(1, 1) d0 h0 h1 h2");
    for (int p = 0; p < 6; p++) {
      t.asks("choice(" + p + ")", 3);
    }
  }

  private static void chosen(int kind, int a, String board, int want) {
    t.on("player(" + kind + ", " + a + ") " + board);
    t.asks("choice(0)", want);
  }

  private static void choiceOfKinds() {
    t.words("PLAYER: the first that MAY be (by numbers).");
    chosen(0, 9, "", 0);
    chosen(0, 9, "h0 h1 h2", 3);
    chosen(0, 9, "size(4, 4)", 0);
    t.words("SHUTTER: the first HEDGE by which a FIELD becomes SHUT, else as PLAYER.");
    chosen(1, 9, "", 0);
    chosen(1, 9, "h0 h2", 1);
    chosen(1, 9, "h0 h2 h6", 7);
    chosen(1, 9, "h0 h2 h6 h5 h10 h11", 3);
    chosen(1, 9, "h5 h10 h11", 3);
    chosen(1, 9, "h0 h6 h7 h5 h10 h11", 2);
    chosen(1, 9, "size(4, 4) h15 h19 h38", 39);
    t.words("CAREFUL: as SHUTTER; if it would shut none: the first HEDGE behind which no FIELD that isn't SHUT has three; else as PLAYER.");
    chosen(3, 9, "", 0);
    chosen(3, 9, "h5 h10 h11", 3);
    chosen(3, 9, "h0 h2", 1);
    chosen(3, 9, "h2 h6", 1);
    chosen(3, 9, "h2 h6 h1", 3);
    chosen(3, 9, "h2 h6 h1 h3", 4);
    chosen(3, 9, "h2 h6 h3 h8 h10", 0);
    chosen(3, 9, "h2 h6 h3 h8 h4 h9 h5 h11", 10);
    chosen(3, 9, "h0 h2 h6 h5 h10 h11", 3);
    chosen(3, 9, "h0 h2 h6 h1 h8", 7);
    chosen(3, 9, "size(1, 1) h0", 1);
    chosen(3, 9, "size(1, 1) h0 h1", 2);
    chosen(3, 9, "size(1, 1) h0 h1 h2", 3);
    chosen(3, 9, "size(2, 1) h0 h2 h4 h5", 1);
    chosen(3, 9, "size(2, 1) h0 h2 h4 h5 h1", 3);
    chosen(3, 9, "size(2, 1) h0 h2 h4 h5 h1 h3", 6);
  }

  private static void diggers() {
    t.words("DIGGER: if fewer than a FIELDS are DUG, the first FIELD that MAY be DUG, else as PLAYER.");
    chosen(2, 0, "", 0);
    chosen(2, 1, "", 100);
    chosen(2, 1, "d3", 0);
    chosen(2, 2, "d3", 100);
    chosen(2, 2, "d0", 101);
    chosen(2, 2, "d0 d1", 0);
    chosen(2, 1, "h0 h2 h6 h7", 101);
    chosen(2, 9, "d0 d1 d2 d3", 0);
    chosen(2, 9, "d0 d1 d2", 103);
    chosen(2, 9, "size(4, 4) d0 d1 d2 d3 d4 d5 d6 d7", 108);
    chosen(2, 9, "size(4, 4) d0 d1 d2 d3 d4 d5 d6 d7 d8", 0);
    chosen(2, 1, "d0 h0 h2 h6 h7", 1);
    t.words("RIMMER: likewise, but only one of which an EDGE is at the RIM.");
    chosen(4, 0, "", 0);
    chosen(4, 1, "", 100);
    chosen(4, 1, "d3", 0);
    chosen(4, 2, "d3", 100);
    chosen(4, 1, "size(3, 3) d4", 0);
    chosen(4, 2, "size(3, 3) d4", 100);
    chosen(4, 9, "size(3, 3) d0 d1 d2 d3", 105);
    chosen(2, 9, "size(3, 3) d0 d1 d2 d3", 104);
    chosen(4, 9, "size(3, 3) d0 d1 d2 d3 d5 d6 d7 d8", 0);
    chosen(2, 9, "size(3, 3) d0 d1 d2 d3 d5 d6 d7 d8", 104);
    chosen(4, 9, "size(4, 4) d0 d1 d2 d3 d4", 107);
    chosen(4, 9, "size(4, 4) d0 d1 d2 d3 d4 d7 d8", 111);
    chosen(4, 9, "size(4, 4) d0 d1 d2 d3 d4 d7 d8 d11", 112);
    chosen(4, 9, "size(4, 4) d0 d1 d2 d3 d4 d7 d8 d11 d12", 0);
    chosen(4, 1, "size(1, 1) h0 h1 h2", 100);
    chosen(4, 2, "size(3, 1) h0 h3 h6 h7", 101);
  }

  private static void draws() {
    t.words("CHANCE: of all that MAY be the one whose number is a DRAW below how many there are.");
    t.words("SEED (1 at first) becomes SEED times 1103515245, and 12345 (an int, wrapping); its upper 16 bits, no sign, modulo n.");
    String[][] seeds = {
      {"0", "0", "0"}, {"1", "6", "3"}, {"2", "100", "1"}, {"5", "103", "0"}, {"-1", "9", "2"},
      {"MAX", "9", "100"}, {"MIN", "0", "3"}, {"12345", "100", "1"}
    };
    for (String[] of : seeds) {
      chosen(5, 0, "seed(" + of[0] + ")", Integer.parseInt(of[1]));
      chosen(5, 0, "seed(" + of[0] + ") size(1, 1)", Integer.parseInt(of[2]));
    }
    chosen(5, 0, "seed(-1) size(1, 1) h0 h1 h2 d0", 3);
    chosen(5, 0, "seed(1) h6", 9);
  }

  private static void played() {
    t.promise(45);
    t.words("MOVES made (what 0), LEAD of 0 at the end (1), the first MOVE (2; NONE). -1002. (NONE isn't refused.)");
    t.on(Scenes.ALL);
    for (String bad : new String[] {"-1", "3", "MIN", "MAX"}) {
      t.refused("played(" + bad + ", 0, 0)", -1002);
      t.refused("played(0, " + bad + ", 0)", -1002);
      t.refused("played(0, 0, " + bad + ")", -1002);
    }
    t.asks("played(0, 1, 2)", 1);
    t.asks("played(1, 0, 2)", 101);
    t.asks("played(2, 2, 2)", 8);
    t.on("");
    t.refused("played(0, 0, 0)", -1002);
    t.words("(perhaps one and the same; the first makes the first MOVE)");
    t.on("size(1, 1) player(0, 0) player(2, 1)");
    t.asks("played(0, 0, 0)", 4);
    t.asks("played(0, 0, 1)", -1);
    t.asks("played(0, 0, 2)", 0);
    t.asks("played(1, 1, 0)", 5);
    t.asks("played(1, 1, 1)", 1);
    t.asks("played(1, 0, 2)", 100);
    t.asks("played(0, 1, 2)", 0);
    t.asks("played(0, 1, 0)", 5);
    t.asks("played(0, 1, 1)", 1);
    t.on("size(1, 1) player(0, 0) player(2, 1) player(4, 9) h0 d0");
    t.asks("played(0, 1, 0)", 3);
    t.on("player(0, 0) player(2, 2)");
    t.asks("played(0, 1, 0)", 14);
    t.asks("played(1, 0, 0)", 14);
    t.asks("played(0, 0, 0)", 12);
    t.on("size(1, 1) player(0, 0) player(2, 1) turn(1)");
    t.asks("played(0, 1, 1)", -1);
    t.asks("played(1, 0, 1)", -1);
    t.asks("played(0, 0, 1)", 1);
    t.asks("played(1, 1, 1)", -1);
    t.words("PLAYED: a GAME from now on, whoever's TURN it is being one PLAYER, the other the other");
    t.on("player(0, 0) player(2, 1) size(1, 1) h0 h1 h2");
    t.asks("played(0, 1, 0)", 1);
    t.asks("played(0, 1, 1)", -1);
    t.asks("played(1, 0, 0)", 2);
    t.asks("played(1, 0, 1)", 1);
    t.on("player(0, 0) player(2, 1) " + OVER);
    t.asks("played(0, 1, 0)", 0);
    t.asks("played(0, 1, 1)", -1);
    t.asks("played(0, 1, 2)", -1);
    t.on("player(5, 0) size(1, 1)");
    t.asks("played(0, 0, 0)", 5);
    t.asks("played(0, 0, 1)", 1);
    t.asks("played(0, 0, 2)", 3);
    t.on("player(5, 0) size(1, 1) seed(-1)");
    t.asks("played(0, 0, 0)", 4);
    t.asks("played(0, 0, 1)", -1);
    t.asks("played(0, 0, 2)", 2);
    t.on("player(2, 9) size(4, 4)");
    t.asks("played(0, 0, 0)", 49);
    t.on("player(5, 0) size(4, 4) seed(6)");
    t.asks("played(0, 0, 0)", 56);
    t.asks("played(0, 0, 1)", 0);
    t.asks("played(0, 0, 2)", 106);
    String lane = "turn(0) h0 turn(0) h3 turn(0) h6 turn(0) h7 turn(0) h1 turn(0) h4 turn(0) h8 turn(0) h2 turn(0) h5 ";
    t.on("player(0, 0) size(3, 1) " + lane + "turn(0)");
    t.asks("played(0, 0, 1)", 2);
    t.on("player(0, 0) size(3, 1) " + lane + "turn(1)");
    t.asks("played(0, 0, 1)", 1);
  }

  private static void wins() {
    t.promise(46);
    t.words("over all others, both GAMES PLAYED with each from now on, one begun by him, one by the other: his LEADS at the end (as whoever he is), added up. -1002.");
    t.on(Scenes.ALL);
    t.refused("wins(-1)", -1002);
    t.refused("wins(3)", -1002);
    t.refused("wins(MIN)", -1002);
    t.refused("wins(MAX)", -1002);
    t.on("");
    t.refused("wins(0)", -1002);
    t.on("player(1, 1) h0");
    t.asks("wins(0)", 0);
    for (String turn : new String[] {"", " turn(0)"}) {
      t.on("player(2, 1) player(0, 0) size(1, 1) h0 h1 h2" + turn);
      t.asks("wins(0)", -2);
      t.asks("wins(1)", 2);
      t.on("player(2, 1) player(0, 0) player(0, 5) size(1, 1) h0 h1 h2" + turn);
      t.asks("wins(0)", -4);
      t.asks("wins(1)", 2);
      t.asks("wins(2)", 2);
    }
    t.on("player(0, 1) player(0, 0) " + OVER);
    t.asks("wins(0)", 0);
    t.on("player(5, 0) player(0, 0) size(1, 1) h0 h1 h2 h3");
    t.asks("wins(0)", 0);
    t.on("player(2, 1) player(0, 0) player(0, 0) player(0, 0) player(0, 0) player(0, 0) size(1, 1) h0 h1 h2");
    t.asks("wins(0)", -10);
    t.asks("wins(5)", 2);
    t.refused("wins(6)", -1002);
    t.on(Scenes.ALL);
    t.asks("wins(2)", chanceOnAll());
  }

  /** What PLAYER 2 wins in the busy scene, from GAMES that played() tells: it is 1's TURN there. */
  private static long chanceOnAll() {
    long sum = 0;
    for (int other = 0; other <= 1; other++) {
      sum -= new Run(Scenes.ALL).call("played(2, " + other + ", 1)");
      sum += new Run(Scenes.ALL).call("played(" + other + ", 2, 1)");
    }
    return sum;
  }

  private static void champion() {
    t.promise(47);
    t.words("The PLAYER who wins most, as wins() has it, of several the first. STUCK: no PLAYERS.");
    t.on("");
    t.refused("champion()", -5);
    t.on("size(4, 4) h0 d0 image()");
    t.refused("champion()", -5);
    t.on("player(0, 0)");
    t.asks("champion()", 0);
    t.on("player(5, 0)");
    t.asks("champion()", 0);
    t.on("player(0, 0) player(0, 0) size(1, 1) h0 h1 h2");
    t.asks("champion()", 0);
    t.on("player(2, 1) player(0, 0) size(1, 1) h0 h1 h2");
    t.asks("champion()", 1);
    t.on("player(0, 0) player(2, 1) size(1, 1) h0 h1 h2");
    t.asks("champion()", 0);
    t.on("player(2, 1) player(0, 0) player(0, 0) size(1, 1) h0 h1 h2");
    t.asks("champion()", 1);
    t.on("player(2, 1) player(2, 1) player(2, 1) player(2, 1) player(2, 1) player(0, 0) size(1, 1) h0 h1 h2");
    t.asks("champion()", 5);
    t.on("player(2, 1) player(0, 0) " + OVER);
    t.asks("champion()", 0);
    t.on("player(0, 0) image() player(2, 1) back()");
    t.asks("champion()", 0);
    t.on("image() player(2, 1) back()");
    t.refused("champion()", -5);
    t.on("player(2, 1) size(1, 1) h0 h1 h2");
    t.asks("champion()", 0);
    t.on("player(2, 1) image() player(1, 0) back() size(1, 1) h0 h1 h2");
    t.asks("champion()", 0);
  }

  private static void likenesses() {
    t.promise(48);
    t.words("By how many of TURNED (0 to 7; 0 to 3, if W and H are unlike) the board is ALIKE.");
    String[][] boards = {
      {"", "8"}, {"size(1, 1)", "8"}, {"size(4, 4)", "8"}, {"size(1, 4)", "4"}, {"size(4, 3)", "4"}, {"h0", "1"},
      {"h7", "2"}, {"h2 h3 h7 h10", "8"}, {"size(2, 1) h5", "4"}, {"size(2, 1) d0", "2"}, {"d0", "2"}, {"d0 d3", "4"},
      {"size(3, 2) d0 h16", "1"}, {"h0 h2 h6 h7", "2"}, {"h0 h2 h6 h7 d3", "2"}, {"h0 h2 h6 h7 d2", "1"},
      {"size(1, 1) h0 h1 h2 h3", "8"}, {"size(1, 1) h0", "2"}, {"size(1, 1) h0 h1", "4"}, {Scenes.ALL, "1"}
    };
    for (String[] of : boards) {
      t.on(of[0]);
      t.asks("likenesses()", Long.parseLong(of[1]));
    }
  }

  /** ALIKE just by those of TURNED that are told. */
  private static void alikeBy(String board, String turned) {
    t.on(board);
    int count = 0;
    for (int by = 0; by < 8; by++) {
      boolean is = turned.indexOf('0' + by) >= 0;
      count += is ? 1 : 0;
      if (turned.charAt(0) != '0') {
        throw new IllegalStateException(board);
      }
      t.asks("alike(" + by + ")", is ? 1 : 0);
    }
    t.asks("likenesses()", count);
  }

  private static void alike() {
    t.promise(49);
    t.words("Whether the board is ALIKE, TURNED (0 to 7): 1, 0. BAD: also 4 to 7 with W and H unlike.");
    for (String board : new String[] {"", "size(4, 4)", "size(3, 2)", "size(1, 4)", Scenes.ALL}) {
      t.on(board);
      for (String bad : new String[] {"-1", "8", "MIN", "MAX"}) {
        t.refused("alike(" + bad + ")", -2);
      }
      t.asks("alike(0)", 1);
    }
    for (String unlike : new String[] {"size(3, 2)", "size(1, 4)", "size(4, 1)"}) {
      t.on(unlike);
      t.asks("alike(3)", 1);
      for (int by = 4; by <= 7; by++) {
        t.refused("alike(" + by + ")", -2);
      }
    }
    t.words("0 as it is, 1 mirrored left and right, 2 up and down, 3 both; 4 to 7: likewise, ROWS and COLUMNS changed about first");
    alikeBy("", "01234567");
    alikeBy("h0 h1", "01");
    alikeBy("h6 h9", "02");
    alikeBy("h0 h5", "03");
    alikeBy("h0 h6", "04");
    alikeBy("h0 h11", "07");
    alikeBy("h1 h8", "07");
    alikeBy("h0 h8 h5 h9", "0356");
    alikeBy("h0 h1 h4 h5", "0123");
    alikeBy("h7 h10", "0123");
    alikeBy("h0 h5 h6 h11", "0347");
    alikeBy("d0 d3", "0347");
    alikeBy("d0 d1", "01");
    alikeBy("d0 d2", "02");
    alikeBy("d1", "07");
    alikeBy("size(4, 4) d0", "04");
    alikeBy("size(4, 4) d3", "07");
    alikeBy("size(4, 4) d1 d4", "04");
    alikeBy("size(4, 4) d1 d7 d14 d8", "0356");
    t.words("ALIKE: whether HEDGES, DUG FIELDS, OWNERS are just the same so.");
    String both = "h0 h2 h6 turn(0) h7 h3 h5 h11 ";
    alikeBy(both + "turn(0) h10", "0347");
    alikeBy(both + "turn(1) h10", "04");
    alikeBy(both + "turn(1) h10 turn(1)", "04");
    t.on("size(2, 1) h0 h2 h4 turn(0) h5 h1 h3 turn(1) h6");
    t.asks("alike(1)", 0);
    t.asks("alike(2)", 1);
    t.asks("alike(3)", 0);
    t.on("size(2, 1) h0 h2 h4 turn(0) h5 h1 h3 turn(0) h6");
    t.asks("alike(1)", 1);
    t.asks("alike(3)", 1);
  }

  private static void judge() {
    t.promise(50);
    t.words("A told GAME by the first n elements (0 to 40) of the ROW in SHELF s: WRONG; NONE. BAD SHELF, n; OTHER; NOTHING; BAD: fewer elements.");
    t.on(Scenes.ALL);
    for (String s : new String[] {"-1", "8", "MIN", "MAX"}) {
      t.refused("judge(" + s + ", 0)", -2);
    }
    for (String n : new String[] {"-1", "41", "MIN", "MAX"}) {
      t.refused("judge(0, " + n + ")", -2);
    }
    t.asks("judge(0, 0)", -1);
    t.asks("judge(0, 1)", -1);
    t.asks("judge(0, 2)", 1);
    t.asks("judge(0, 3)", 1);
    t.refused("judge(0, 4)", -2);
    t.refused("judge(0, 40)", -2);
    t.asks("judge(1, 40)", 0);
    t.asks("judge(1, 0)", -1);
    t.asks("judge(3, 0)", -1);
    t.refused("judge(3, 1)", -2);
    t.refused("judge(2, 0)", -3);
    t.refused("judge(7, 0)", -4);
    t.words("WRONG: the first that MAY not be; NONE.");
    t.on(FORTY);
    t.asks("judge(0, 40)", -1);
    t.refused("judge(0, 41)", -2);
    t.on(FORTY + "set(0, 39, 38)");
    t.asks("judge(0, 39)", -1);
    t.asks("judge(0, 40)", 39);
    t.on(FORTY + "set(0, 39, 40)");
    t.asks("judge(0, 40)", 39);
    t.on(FORTY + "h0");
    t.asks("judge(0, 40)", 0);
    t.on("size(1, 1) row(0, 2, 5) set(0, 1, 1) set(0, 2, 2) set(0, 3, 3) set(0, 4, 100)");
    t.asks("judge(0, 4)", -1);
    t.asks("judge(0, 5)", 4);
    t.on("size(1, 1) row(0, 2, 5) set(0, 0, 100) set(0, 2, 1) set(0, 3, 2) set(0, 4, 3)");
    t.asks("judge(0, 5)", -1);
    for (String no : new String[] {"-1", "4", "99", "101", "4294967296", "4294967297", "LMIN", "LMAX"}) {
      t.on("size(1, 1) row(0, 3, 2) set(0, 1, " + no + ")");
      t.asks("judge(0, 1)", -1);
      t.asks("judge(0, 2)", 1);
    }
    t.on("size(1, 1) row(0, 3, 1) set(0, 0, 4294967296)");
    t.asks("judge(0, 1)", 0);
    t.on("size(1, 1) row(0, 3, 1) set(0, 0, -1)");
    t.asks("judge(0, 1)", 0);
    t.on("row(0, 0, 1) set(0, 0, 103)");
    t.asks("judge(0, 1)", -1);
    t.on("row(0, 1, 1) set(0, 0, 103)");
    t.asks("judge(0, 1)", -1);
    t.on("row(0, 4, 2) set(0, 1, 7)");
    t.asks("judge(0, 2)", -1);
    t.on("row(0, 4, 2) set(0, 0, 7) set(0, 1, 8)");
    t.asks("judge(0, 2)", 1);
    t.on(OVER + "row(0, 2, 1)");
    t.asks("judge(0, 0)", -1);
    t.asks("judge(0, 1)", 0);
  }

  private static void judgeOrder() {
    t.words("the first that fits as each line has them");
    t.on(Scenes.ALL);
    t.refused("judge(8, 41)", -2);
    t.refused("judge(2, -1)", -2);
    t.refused("judge(2, 41)", -2);
    t.refused("judge(2, 40)", -3);
    t.refused("judge(7, -1)", -2);
    t.refused("judge(7, 41)", -2);
    t.refused("judge(7, 40)", -4);
  }

  private static void behind() {
    t.promise(51);
    t.words("LEAD of 0 behind it. -1002 SHELF, n; -1003; -1004; -1002 fewer elements; -1005 it is WRONG.");
    t.on(Scenes.ALL);
    for (String s : new String[] {"-1", "8", "MIN", "MAX"}) {
      t.refused("behind(" + s + ", 0)", -1002);
    }
    for (String n : new String[] {"-1", "41", "MIN", "MAX"}) {
      t.refused("behind(0, " + n + ")", -1002);
    }
    t.refused("behind(2, 0)", -1003);
    t.refused("behind(7, 0)", -1004);
    t.asks("behind(0, 0)", -1);
    t.asks("behind(0, 1)", -1);
    t.refused("behind(0, 2)", -1005);
    t.refused("behind(0, 3)", -1005);
    t.refused("behind(0, 4)", -1002);
    t.asks("behind(3, 0)", -1);
    t.refused("behind(3, 1)", -1002);
    t.refused("behind(1, 40)", -1005);
    t.words("the first that fits as each line has them");
    t.refused("behind(8, 41)", -1002);
    t.refused("behind(2, -1)", -1002);
    t.refused("behind(2, 41)", -1002);
    t.refused("behind(2, 40)", -1003);
    t.refused("behind(7, -1)", -1002);
    t.refused("behind(7, 41)", -1002);
    t.refused("behind(7, 40)", -1004);
    t.words("LEAD behind it.");
    t.on(FORTY);
    t.asks("behind(0, 39)", 1);
    t.asks("behind(0, 40)", 0);
    t.asks("behind(0, 24)", -1);
    t.asks("behind(0, 23)", 0);
    t.asks("behind(0, 22)", -1);
    t.refused("behind(0, 41)", -1002);
    t.on("size(3, 1) turn(0) h0 turn(0) h3 turn(0) h6 turn(0) h7 turn(0) h1 turn(0) h4 turn(0) h8 turn(0) h2 turn(0) h5 "
        + "turn(0) row(0, 0, 1) set(0, 0, 9)");
    t.asks("behind(0, 0)", 2);
    t.asks("behind(0, 1)", 2);
    t.on(FORTY + "turn(1)");
    t.asks("behind(0, 39)", -1);
    t.asks("behind(0, 22)", 1);
  }
}
