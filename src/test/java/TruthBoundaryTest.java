/** What promises 52 to 59 say of what comes to pass in truth, at each boundary they name. */
public final class TruthBoundaryTest {
  private static final Bench t = new Bench(52, 59);
  private static final String OVER = "size(1, 1) h0 h1 h2 h3 ";

  public static void main(String[] args) {
    done();
    doneRefused();
    move();
    moveRefused();
    goes();
    goesByDraws();
    games();
    gamesRefused();
    seed();
    image();
    back();
    backAndPlayers();
    status();
    refusals();
    t.end();
  }

  /** Calls that put MOVES 0 on, by numbers, into the ROW in SHELF 0. */
  private static String told(int n) {
    StringBuilder script = new StringBuilder("row(0, 2, " + n + ") ");
    for (int i = 1; i < n; i++) {
      script.append("set(0, ").append(i).append(", ").append(i).append(") ");
    }
    return script.toString();
  }

  /** The same MOVES made. */
  private static String made(int n) {
    StringBuilder script = new StringBuilder();
    for (int i = 0; i < n; i++) {
      script.append("h").append(i).append(" ");
    }
    return script.toString();
  }

  private static void done() {
    t.promise(52);
    t.words("It comes to pass in truth: MOVES made in all. BAD; OTHER; NOTHING; BAD; STUCK: it is WRONG.");
    t.on(Scenes.ALL);
    t.asks("done(0, 0)", 5);
    t.like("done(0, 1)", 6, Scenes.busy(Scenes.BOARD + "h7 ") + Scenes.TAPE);
    t.asks("done(3, 0)", 5);
    t.on("size(4, 4) " + told(40));
    t.like("done(0, 40)", 40, "size(4, 4) " + told(40) + made(40));
    t.like("done(0, 39)", 39, "size(4, 4) " + told(40) + made(39));
    t.asks("done(0, 0)", 0);
    t.on("size(1, 1) " + told(4));
    t.like("done(0, 4)", 4, "size(1, 1) " + told(4) + made(4));
    t.on("size(1, 1) turn(1) " + told(4));
    t.like("done(0, 4)", 4, "size(1, 1) turn(1) " + told(4) + made(4));
    t.on("size(1, 1) row(0, 0, 2) set(0, 0, 100) set(0, 1, 3)");
    t.like("done(0, 2)", 2, "size(1, 1) row(0, 0, 2) set(0, 0, 100) set(0, 1, 3) d0 h3");
  }

  private static void doneRefused() {
    t.on(Scenes.ALL);
    for (String s : new String[] {"-1", "8", "MIN", "MAX"}) {
      t.refused("done(" + s + ", 0)", -2);
    }
    for (String n : new String[] {"-1", "41", "MIN", "MAX"}) {
      t.refused("done(0, " + n + ")", -2);
    }
    t.refused("done(2, 0)", -3);
    t.refused("done(7, 0)", -4);
    t.refused("done(0, 4)", -2);
    t.refused("done(3, 1)", -2);
    t.refused("done(0, 2)", -5);
    t.refused("done(0, 3)", -5);
    t.refused("done(1, 40)", -5);
    t.words("the first that fits as each line has them");
    t.refused("done(8, 41)", -2);
    t.refused("done(2, -1)", -2);
    t.refused("done(2, 41)", -2);
    t.refused("done(2, 40)", -3);
    t.refused("done(7, -1)", -2);
    t.refused("done(7, 41)", -2);
    t.refused("done(7, 40)", -4);
    t.on("size(4, 4) " + told(40) + "set(0, 39, 38)");
    t.refused("done(0, 40)", -5);
    t.refused("done(0, 41)", -2);
    t.on(OVER + "row(0, 2, 1)");
    t.refused("done(0, 1)", -5);
    t.asks("done(0, 0)", 4);
  }

  private static void move() {
    t.promise(53);
    t.words("A MOVE in truth: how many FIELDS became SHUT by it. BAD: no such MOVE; STUCK: it MAY not be.");
    t.words("It is the other one's TURN then; MOVES are 1 more.");
    t.on(Scenes.ALL);
    t.changes("move(7)", 0, "edgeOf(7, 0)=1", "fieldOf(4, 0)=1", "status(2)=+1", "status(5)=0", "status(6)=+1");
    t.changes("move(1)", 0, "edgeOf(1, 0)=1", "fieldOf(1, 0)=2", "status(2)=+1", "status(5)=0", "status(6)=+1");
    t.changes("move(16)", 0, "edgeOf(16, 0)=1", "fieldOf(5, 0)=1", "status(2)=+1", "status(5)=0", "status(6)=+1");
    t.changes("move(101)", 0, "fieldOf(1, 1)=1", "status(3)=+1", "status(5)=0", "status(6)=+1");
    t.changes("move(105)", 0, "fieldOf(5, 1)=1", "status(3)=+1", "status(5)=0", "status(6)=+1");
    t.on("");
    t.changes("move(11)", 0, "edgeOf(11, 0)=1", "fieldOf(3, 0)=1", "status(2)=1", "status(5)=1", "status(6)=1");
    t.words("Each FIELD that becomes SHUT by a HEDGE gets who made the MOVE as OWNER.");
    t.on("size(1, 1) h0 h1 h2");
    t.changes("move(3)", 1, "edgeOf(3, 0)=1", "fieldOf(0, 0)=4", "fieldOf(0, 2)=1", "status(2)=4", "status(4)=1", "status(5)=0", "status(6)=4");
    t.on("size(1, 1) h0 h1 d0 h2");
    t.changes("move(3)", 1, "edgeOf(3, 0)=1", "fieldOf(0, 0)=4", "fieldOf(0, 2)=0", "status(2)=4", "status(4)=1", "status(5)=1", "status(6)=5");
    t.on("h0 h2 h6 h1 h3 h8");
    t.changes("move(7)", 2, "edgeOf(7, 0)=1", "fieldOf(0, 0)=4", "fieldOf(1, 0)=4", "fieldOf(0, 2)=0", "fieldOf(1, 2)=0",
        "status(2)=7", "status(4)=2", "status(5)=1", "status(6)=7");
    t.on("size(1, 2) h0 h2 h3 h4 h5 h6 turn(1)");
    t.changes("move(1)", 2, "edgeOf(1, 0)=1", "fieldOf(0, 0)=4", "fieldOf(1, 0)=4", "fieldOf(0, 2)=1", "fieldOf(1, 2)=1",
        "status(2)=7", "status(4)=2", "status(5)=0", "status(6)=7");
    t.on("h0 h2 h6 h7 h1 h3");
    t.changes("move(8)", 1, "edgeOf(8, 0)=1", "fieldOf(1, 0)=4", "fieldOf(1, 2)=0",
        "status(2)=7", "status(4)=2", "status(5)=1", "status(6)=7");
    t.on("size(4, 4)");
    t.changes("move(39)", 0, "edgeOf(39, 0)=1", "fieldOf(15, 0)=1", "status(2)=1", "status(5)=1", "status(6)=1");
    t.changes("move(115)", 0, "fieldOf(15, 1)=1", "status(3)=1", "status(5)=1", "status(6)=1");
  }

  private static void moveRefused() {
    t.on(Scenes.ALL);
    for (String none : new String[] {"-1", "17", "40", "99", "106", "116", "140", "MIN", "MAX"}) {
      t.refused("move(" + none + ")", -2);
    }
    t.refused("move(0)", -5);
    t.refused("move(10)", -5);
    t.refused("move(104)", -5);
    t.refused("move(100)", -5);
    t.on("size(1, 1)");
    t.refused("move(4)", -2);
    t.refused("move(101)", -2);
    t.on("size(4, 4)");
    t.refused("move(40)", -2);
    t.refused("move(116)", -2);
    t.on(OVER);
    t.refused("move(0)", -5);
    t.refused("move(100)", -5);
    t.refused("move(4)", -2);
  }

  private static void goes() {
    t.promise(54);
    t.words("n MOVES (1 to 40; fewer, if the GAME is over) in truth, all by one PLAYER: how many were made. BAD.");
    t.on(Scenes.ALL);
    for (String bad : new String[] {"-1", "3", "MIN", "MAX"}) {
      t.refused("goes(" + bad + ", 1)", -2);
    }
    for (String bad : new String[] {"-1", "0", "41", "MIN", "MAX"}) {
      t.refused("goes(0, " + bad + ")", -2);
    }
    t.like("goes(0, 1)", 1, Scenes.busy(Scenes.BOARD + "h1 ") + Scenes.TAPE);
    t.like("goes(0, 2)", 2, Scenes.busy(Scenes.BOARD + "h1 h2 ") + Scenes.TAPE);
    t.like("goes(0, 40)", 13, Scenes.busy(Scenes.BOARD + "h1 h2 h4 h11 h5 h12 h6 h7 h8 h13 h14 h15 h16 ") + Scenes.TAPE);
    t.like("goes(1, 40)", 17,
        Scenes.busy(Scenes.BOARD + "d1 d2 d3 d5 h1 h2 h4 h5 h6 h7 h8 h11 h12 h13 h14 h15 h16 ") + Scenes.TAPE);
    t.on("");
    t.refused("goes(0, 1)", -2);
    t.on("size(4, 4) player(0, 0) player(2, 9)");
    t.like("goes(0, 40)", 40, "size(4, 4) player(0, 0) player(2, 9) " + made(40));
    t.like("goes(0, 39)", 39, "size(4, 4) player(0, 0) player(2, 9) " + made(39));
    t.like("goes(1, 40)", 40, "size(4, 4) player(0, 0) player(2, 9) d0 d1 d2 d3 d4 d5 d6 d7 d8 " + made(31));
    t.like("goes(1, 9)", 9, "size(4, 4) player(0, 0) player(2, 9) d0 d1 d2 d3 d4 d5 d6 d7 d8");
    t.on("size(1, 1) player(0, 0) h0 h1 h2");
    t.like("goes(0, 1)", 1, "size(1, 1) player(0, 0) h0 h1 h2 h3");
    t.like("goes(0, 40)", 1, "size(1, 1) player(0, 0) h0 h1 h2 h3");
    t.on("player(0, 0) player(5, 0) player(3, 0) " + OVER);
    for (int p = 0; p < 3; p++) {
      t.asks("goes(" + p + ", 1)", 0);
      t.asks("goes(" + p + ", 40)", 0);
      t.refused("goes(" + p + ", 0)", -2);
    }
  }

  private static void goesByDraws() {
    t.words("A DRAW below n: SEED (1 at first) becomes SEED times 1103515245, and 12345 (an int, wrapping)");
    String[][] draws = {
      {"0", "0", "12345"}, {"1", "6", "1103527590"}, {"2", "100", "-2087924461"}, {"-1", "9", "-1103502900"},
      {"MAX", "9", "1043980748"}, {"MIN", "0", "-2147471303"}, {"5", "103", "1222621274"}, {"12345", "100", "-740551042"}
    };
    for (String[] of : draws) {
      t.on("player(5, 0) seed(" + of[0] + ")");
      t.like("goes(0, 1)", 1, "player(5, 0) seed(" + of[2] + ") move(" + of[1] + ")");
    }
    t.on("player(5, 0) size(1, 1)");
    t.like("goes(0, 40)", 5, "player(5, 0) size(1, 1) h3 h2 h0 d0 h1 seed(-112468174)");
    t.on("player(5, 0) size(1, 1) seed(-1)");
    t.like("goes(0, 40)", 4, "player(5, 0) size(1, 1) h2 h1 h3 h0 seed(-396452581)");
    t.on("player(5, 0) size(1, 1) seed(0)");
    t.like("goes(0, 5)", 5, "player(5, 0) size(1, 1) h0 h1 h2 d0 h3 seed(229283573)");
    t.on("player(5, 0) size(1, 1) h0 h1 h2 d0 seed(-1)");
    t.like("goes(0, 1)", 1, "player(5, 0) size(1, 1) h0 h1 h2 d0 h3 seed(-1103502900)");
    t.on("player(5, 0) " + OVER);
    t.asks("goes(0, 40)", 0);
  }

  private static void games() {
    t.promise(55);
    t.words("GAMES (n 1 to 20): how often 0 has the greater SCORE. BAD.");
    t.words("each on a new board of this size, TURN 0, both always as CHANCE, to the end: how often 0 has the greater SCORE; the board is then as it was");
    for (String board : new String[] {"size(1, 1)", "size(1, 1) h2 turn(1)", "size(1, 1) d0", OVER, OVER + "turn(1)"}) {
      t.on(board);
      t.changes("games(1)", 1, "status(9)=-112468174");
      t.changes("games(20)", 17, "status(9)=-475370810");
    }
    t.on("size(1, 1) seed(-1)");
    t.changes("games(1)", 0, "status(9)=-396452581");
    t.changes("games(20)", 14, "status(9)=535965689");
    t.on("size(1, 1) seed(7)");
    t.changes("games(1)", 1, "status(9)=2131988640");
    t.changes("games(20)", 18, "status(9)=-1315343875");
    t.on("size(1, 1) seed(0)");
    t.changes("games(20)", 15, "status(9)=-774706653");
    t.on("size(2, 1)");
    t.changes("games(1)", 0, "status(9)=-1084965762");
    t.changes("games(20)", 5, "status(9)=2098299345");
    t.on("h7 d0");
    t.changes("games(1)", 0, "status(9)=-997725327");
    t.changes("games(20)", 4, "status(9)=-288602441");
    t.on("size(4, 1) turn(1)");
    t.changes("games(20)", 1, "status(9)=1094227392");
    t.on("size(3, 3)");
    t.changes("games(20)", 4, "status(9)=-1874383026");
    t.on("size(4, 4) seed(6)");
    t.changes("games(1)", 0, "status(9)=1422361582");
    t.on("size(1, 1) games(1)");
    t.changes("games(19)", 16, "status(9)=-475370810");
  }

  private static void gamesRefused() {
    for (String board : new String[] {"", Scenes.ALL, OVER, "size(4, 4)"}) {
      t.on(board);
      for (String bad : new String[] {"-1", "0", "21", "MIN", "MAX"}) {
        t.refused("games(" + bad + ")", -2);
      }
    }
  }

  private static void seed() {
    t.promise(56);
    t.words("SEED becomes v: the one ahead.");
    t.on("");
    t.asks("seed(1)", 1);
    t.changes("seed(0)", 1, "status(9)=0");
    t.on(Scenes.ALL);
    t.asks("seed(5)", 5);
    t.changes("seed(0)", 5, "status(9)=0");
    t.changes("seed(-1)", 5, "status(9)=-1");
    t.changes("seed(MAX)", 5, "status(9)=2147483647");
    t.changes("seed(MIN)", 5, "status(9)=-2147483648");
    t.on("seed(MIN)");
    t.changes("seed(MAX)", Integer.MIN_VALUE, "status(9)=2147483647");
    t.on("seed(-7) size(4, 4)");
    t.asks("seed(-7)", -7);
    t.on("seed(-7) 'size 3 3'");
    t.asks("seed(-7)", -7);
  }

  private static void image() {
    t.promise(57);
    t.words("All is kept, but THE TAPE, SHELVES and REFUSALS: 1.");
    t.on("seed(9) player(4, 7) size(3, 1) h0 d2 h3 row(0, 2, 1) feed(7) image()");
    t.asks("image()", 1);
    t.on("seed(9) player(4, 7) size(3, 1) h0 d2 h3 row(0, 2, 1) feed(7)");
    t.like("image()", 1, "seed(9) player(4, 7) size(3, 1) h0 d2 h3 image() row(0, 2, 1) feed(7)");
    t.on("image() seed(9) player(4, 7) size(3, 1) h0 d2 h3");
    t.like("image()", 1, "seed(9) player(4, 7) size(3, 1) h0 d2 h3 image()");
    t.on("seed(9) player(4, 7) size(3, 1) h0 d2 h3 image() size(1, 1) player(0, 0) seed(3)");
    t.like("image()", 1, "seed(9) player(4, 7) size(1, 1) player(0, 0) seed(3) image()");
    t.on("size(0, 0) move(99)");
    t.like("image()", 1, "image() size(0, 0) move(99)");
    t.on("size(4, 4) d0 d15 h39 h0");
    t.like("image()", 1, "size(4, 4) d0 d15 h39 h0 image()");
  }

  private static void back() {
    t.promise(58);
    t.words("All is again as it was kept (SHELVES with PLAYERS hold those of the same numbers, or NOTHING): 1. STUCK: nothing was.");
    t.on("");
    t.refused("back()", -5);
    t.on("size(3, 3) h0 player(0, 0) show(0, 0)");
    t.refused("back()", -5);
    String kept = "seed(9) player(4, 7) size(3, 1) h0 h3 h6 turn(1) h7 d2 turn(0) image() ";
    t.on(kept);
    t.asks("back()", 1);
    for (String then : new String[] {"h1", "d1", "turn(1)", "size(3, 1)", "size(4, 4) d15", "seed(0)", "player(0, 0)",
        "turn(1) h4 h5", "goes(0, 40)", "games(20)", "'player 1 1;size 1 1;dig 0'", "player(0, 0) player(1, 1) size(1, 1) h0 h1 h2 h3"}) {
      t.on(kept + then);
      t.like("back()", 1, kept);
    }
    t.on(kept + "row(3, 2, 3) set(3, 1, 5) <turn> size(9, 9) h1");
    t.like("back()", 1, kept + "row(3, 2, 3) set(3, 1, 5) <turn> size(9, 9)");
    t.on(kept + "h1 back()");
    t.asks("back()", 1);
    t.on(kept + "h1 back() h1");
    t.like("back()", 1, kept);
    t.on("image() h0 h1 h2");
    t.like("back()", 1, "image()");
    t.on("h0 h2 h6 h7 turn(0) h5 h11 h10 h3 image() size(2, 2)");
    t.like("back()", 1, "h0 h2 h6 h7 turn(0) h5 h11 h10 h3 image()");
    t.on("h0 image() h1 image() h2");
    t.like("back()", 1, "h0 h1 image()");
  }

  private static void backAndPlayers() {
    t.on("player(1, 1) image() player(2, 2) show(0, 0) show(1, 1) show(2, 1) row(3, 4, 1)");
    t.changes("back()", 1, "status(7)=1", "playerOf(1, 0)=none", "playerOf(1, 1)=none", "holds(1)=-1", "holds(2)=-1", "status(10)=2");
    t.on("image() player(2, 2) show(7, 0)");
    t.changes("back()", 1, "status(7)=0", "playerOf(0, 0)=none", "playerOf(0, 1)=none", "holds(7)=-1", "status(10)=0");
    t.on("image() player(2, 2) show(0, 0) show(7, 0)");
    t.changes("back()", 1, "status(7)=0", "playerOf(0, 0)=none", "playerOf(0, 1)=none", "holds(0)=-1", "holds(7)=-1", "status(10)=0");
    t.on("player(1, 1) show(7, 0) image() show(7, NONE)");
    t.asks("back()", 1);
    String six = "player(0, 0) player(1, 1) player(2, 2) player(3, 3) player(4, 4) player(5, 5) ";
    t.on(six + "show(5, 5) image()");
    t.asks("back()", 1);
    t.on("player(1, 1) image() player(2, 2) back() player(3, 3)");
    t.like("back()", 1, "player(1, 1) image()");
    t.on("player(1, 1) image() player(2, 2) back()");
    t.changes("player(3, 3)", 1, "status(7)=2", "playerOf(1, 0)=3", "playerOf(1, 1)=3");
    t.refused("show(0, 1)", -2);
    t.refused("choice(1)", -2);
    t.on("player(1, 1) image() player(0, 0) player(0, 0) player(0, 0) player(0, 0) player(0, 0)");
    t.refused("player(0, 0)", -6);
    t.on("player(1, 1) image() player(0, 0) player(0, 0) player(0, 0) player(0, 0) player(0, 0) back()");
    t.changes("player(5, 0)", 1, "status(7)=2", "playerOf(1, 0)=5", "playerOf(1, 1)=0");
  }

  private static void status() {
    t.promise(59);
    t.words("W (0), H (1), HEDGES (2), DUG FIELDS (3), SHUT FIELDS (4), whose TURN (5), MOVES made (6), PLAYERS (7), THE TAPE's size (8), SEED (9), SHELVES that hold something (10), EDGES (11); 12 to 16: REFUSALS -2 to -6. NONE another what.");
    t.on(Scenes.ALL);
    int[] states = {3, 2, 4, 1, 1, 1, 5, 3, 12, 5, 5, 17, 1, 1, 1, 1, 0};
    for (int what = 0; what < states.length; what++) {
      t.asks("status(" + what + ")", states[what]);
    }
    for (String other : new String[] {"-1", "17", "MIN", "MAX", "-2", "-12", "100"}) {
      t.asks("status(" + other + ")", -1);
    }
    t.on("size(4, 4) " + made(40));
    int[] full = {4, 4, 40, 0, 16, 0, 40};
    for (int what = 0; what < full.length; what++) {
      t.asks("status(" + what + ")", full[what]);
    }
    t.on("size(4, 4) d0 d1 d2 d3 d4 d5 d6 d7 d8 d9 d10 d11 d12 d13 d14 d15");
    t.asks("status(3)", 16);
    t.on("size(1, 1) d0 h0 h1 h2 h3");
    t.asks("status(3)", 1);
    t.asks("status(4)", 1);
    t.on("row(0, 0, 0) row(1, 0, 0) row(2, 0, 0) row(3, 0, 0) row(4, 0, 0) row(5, 0, 0) row(6, 0, 0) row(7, 0, 0)");
    t.asks("status(10)", 8);
    t.on("player(0, 0) show(0, 0) show(7, 0) row(3, 0, 0) show(3, NONE)");
    t.asks("status(10)", 2);
  }

  private static void refusals() {
    t.words("nothing changes but how many there were");
    t.on("feed(256) set(0, 0, 0) champion() best()");
    t.asks("status(12)", 1);
    t.asks("status(13)", 0);
    t.asks("status(14)", 1);
    t.asks("status(15)", 2);
    t.asks("status(16)", 0);
    t.on("player(0, 0) player(0, 0) player(0, 0) player(0, 0) player(0, 0) player(0, 0) player(0, 0) player(0, 0) show(0, 0) set(0, 0, 0)");
    t.asks("status(13)", 1);
    t.asks("status(16)", 2);
    t.words("(Calls that tell a LEAD answer -1000 and the number.)");
    t.on("lead(2) after(12) after(0) worth() played(0, 0, 0) wins(0) behind(8, 0) behind(0, 0)");
    t.asks("status(12)", 5);
    t.asks("status(14)", 1);
    t.asks("status(15)", 2);
    t.on("best() moves(NONE) status(99) element(9, 9) holds(9) fieldOf(0, 2) edgeOf(0, 1) leader()");
    t.asks("status(12)", 0);
    t.asks("status(15)", 1);
  }
}
