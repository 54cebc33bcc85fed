/** What promises 9 to 14 say of boards, PLAYERS and THE TAPE, at each boundary they name. */
public final class BoardBoundaryTest {
  private static final Bench t = new Bench(9, 14);
  private static final String[] FAR = {"MIN", "MAX"};

  private static final String SIX_PLAYERS =
      "'player 0 0;player 1 1;player 2 2;player 3 3;player 4 4;player 5 5' ";

  public static void main(String[] args) {
    size();
    player();
    turn();
    feed();
    wipe();
    tokens();
    blanks();
    statements();
    sizeStatement();
    moveStatements();
    turnStatement();
    playerStatement();
    allOrNothing();
    faults();
    tapeBehind();
    t.end();
  }

  private static void size() {
    t.promise(9);
    t.words("It has W (1 to 4) COLUMNS and H (1 to 4) ROWS of FIELDS (2 and 2 at first), numbered by rows, 0 on.");
    t.words("A new board: how many EDGES. BAD.");
    t.on(Scenes.ALL);
    int[][] edges = {{4, 7, 10, 13}, {7, 12, 17, 22}, {10, 17, 24, 31}, {13, 22, 31, 40}};
    for (int w = 1; w <= 4; w++) {
      for (int h = 1; h <= 4; h++) {
        String size = "size(" + w + ", " + h + ")";
        t.like(size, edges[w - 1][h - 1], Scenes.busy(size) + Scenes.TAPE);
      }
    }
    t.refused("size(0, 1)", -2);
    t.refused("size(5, 1)", -2);
    t.refused("size(1, 0)", -2);
    t.refused("size(1, 5)", -2);
    t.refused("size(0, 4)", -2);
    t.refused("size(5, 4)", -2);
    t.refused("size(4, 0)", -2);
    t.refused("size(4, 5)", -2);
    t.refused("size(-1, 2)", -2);
    t.refused("size(2, -1)", -2);
    for (String far : FAR) {
      t.refused("size(" + far + ", 2)", -2);
      t.refused("size(2, " + far + ")", -2);
    }
    t.words("(a new board: nothing on it, TURN 0, MOVES 0)");
    t.on("size(3, 3) d4 h0 h1 turn(1)");
    t.like("size(3, 3)", 24, "size(3, 3)");
    t.on("h0 h2 h6 h7");
    t.like("size(2, 2)", 12, "");
    t.on("size(4, 4) d15 h39 h0 h4 h20 h21");
    t.like("size(1, 1)", 4, "size(1, 1)");
  }

  private static void player() {
    t.promise(10);
    t.words("A PLAYER: the number. BAD; FULL.");
    t.words("PLAYERS have numbers, 0 on, 6 at most, each of a KIND");
    t.on(Scenes.ALL);
    t.refused("player(-1, 0)", -2);
    for (int kind = 0; kind <= 5; kind++) {
      t.changes("player(" + kind + ", 3)", 3, "status(7)=4", "playerOf(3, 0)=" + kind, "playerOf(3, 1)=3");
    }
    t.refused("player(6, 0)", -2);
    t.words("a (0 to 9)");
    t.refused("player(0, -1)", -2);
    t.changes("player(0, 0)", 3, "status(7)=4", "playerOf(3, 0)=0", "playerOf(3, 1)=0");
    t.changes("player(0, 9)", 3, "status(7)=4", "playerOf(3, 0)=0", "playerOf(3, 1)=9");
    t.refused("player(0, 10)", -2);
    for (String far : FAR) {
      t.refused("player(" + far + ", 0)", -2);
      t.refused("player(0, " + far + ")", -2);
    }
    t.words("6 at most");
    t.on("");
    t.changes("player(4, 2)", 0, "status(7)=1", "playerOf(0, 0)=4", "playerOf(0, 1)=2");
    t.on("player(0, 0) player(1, 1) player(2, 2) player(3, 3) player(4, 4)");
    t.changes("player(5, 5)", 5, "status(7)=6", "playerOf(5, 0)=5", "playerOf(5, 1)=5");
    t.on(SIX_PLAYERS);
    t.refused("player(0, 0)", -6);
    t.refused("player(5, 9)", -6);
    t.words("the first that fits as each line has them");
    t.refused("player(6, 0)", -2);
    t.refused("player(-1, 0)", -2);
    t.refused("player(0, 10)", -2);
    t.refused("player(0, -1)", -2);
  }

  private static void turn() {
    t.promise(11);
    t.words("It is the TURN of 0, 1: whose it was. BAD.");
    t.on(Scenes.ALL);
    t.refused("turn(-1)", -2);
    t.changes("turn(0)", 1, "status(5)=0");
    t.asks("turn(1)", 1);
    t.refused("turn(2)", -2);
    t.refused("turn(MIN)", -2);
    t.refused("turn(MAX)", -2);
    t.on("");
    t.asks("turn(0)", 0);
    t.changes("turn(1)", 0, "status(5)=1");
    t.on("turn(1) h0 h2 h6 turn(1)");
    t.changes("move(7)", 1, "edgeOf(7, 0)=1", "status(2)=+1", "status(4)=1", "status(5)=0", "status(6)=+1",
        "fieldOf(0, 0)=4", "fieldOf(0, 2)=1", "fieldOf(1, 0)=1");
  }

  private static void feed() {
    t.promise(12);
    t.words("THE TAPE gets one byte (0 to 255) behind it: its size. BAD; FULL.");
    t.on(Scenes.ALL);
    t.refused("feed(-1)", -2);
    t.changes("feed(0)", 13, "status(8)=13");
    t.changes("feed(255)", 13, "status(8)=13");
    t.refused("feed(256)", -2);
    t.refused("feed(MIN)", -2);
    t.refused("feed(MAX)", -2);
    t.on("");
    t.changes("feed(0)", 1, "status(8)=1");
    t.words("bytes, 250 at most");
    t.on("<" + "turn0;".repeat(41) + "dig>");
    t.changes("feed(48)", 250, "status(8)=250", "board()=42");
    t.on("<" + "turn0;".repeat(41) + "dig0>");
    t.refused("feed(0)", -6);
    t.refused("feed(255)", -6);
    t.refused("feed(48)", -6);
    t.words("the first that fits as each line has them");
    t.refused("feed(256)", -2);
    t.refused("feed(-1)", -2);
  }

  private static void wipe() {
    t.promise(13);
    t.words("THE TAPE is empty: its size ahead.");
    t.on(Scenes.ALL);
    t.changes("wipe()", 12, "status(8)=0", "board()=-20");
    t.on(Scenes.BUSY);
    t.asks("wipe()", 0);
    t.on("feed(0)");
    t.like("wipe()", 1, "");
    t.on("<" + "turn0;".repeat(41) + "dig0>");
    t.like("wipe()", 250, "");
    t.on("<" + "turn0;".repeat(41) + "dig0> wipe()");
    t.changes("feed(7)", 1, "status(8)=1");
  }

  private static void tokens() {
    t.promise(14);
    t.words("TOKENS, each as long as can be: WORDS (a .. z), NUMBERS (digits), the SIGN ;");
    t.on(Scenes.BUSY);
    t.reads("turn0", 1, "turn(0)");
    t.reads("turn00", 1, "turn(0)");
    t.reads("turn01", 1, "turn(1)");
    t.fault("turn000", 4);
    t.fault("turnturn 0", 0);
    t.fault("turna 0", 0);
    t.fault("turnz 0", 0);
    t.fault("aturn 0", 0);
    t.fault("turn`0", 4);
    t.fault("turn{0", 4);
    t.fault("turn@0", 4);
    t.fault("turnA0", 4);
    t.fault("turn/0", 4);
    t.fault("turn:0", 4);
    t.fault("turn 0:", 6);
    t.fault("turn 0/", 6);
    t.fault("turn 0:turn 0", 6);
    t.fault("turn 0<turn 0", 6);
    t.fault("turn 0a", 6);
    t.fault("size 11", 5);
    t.fault("size 32;turn 0", 5);
    t.fault("player 59", 7);
    t.fault("Turn 0", 0);
    t.fault("TURN 0", 0);
    t.reads("turn0;turn1;dig1;hedge16;player0 9", 5, "turn(1) d1 h16 player(0, 9)");
  }

  private static void blanks() {
    t.words("blanks (32) may stand anywhere between");
    t.reads("   turn   0   ;   dig   1   ", 2, "turn(0) d1");
    t.reads("turn 0 ;dig 1", 2, "turn(0) d1");
    t.reads("turn 0; dig 1", 2, "turn(0) d1");
    t.reads("turn 0 ", 1, "turn(0)");
    t.reads(" turn 0", 1, "turn(0)");
    t.reads("size 4     4", 1, "size(4, 4)");
    t.fault("tu rn 0", 0);
    t.fault("dig 0 1", 4);
    t.fault("dig 1 1", 6);
    for (int other : new int[] {0, 9, 10, 13, 31, 33, 127, 128, 160, 255}) {
      t.on(Scenes.BUSY + " <turn> feed(" + other + ") <0>");
      t.changes("board()", -24, "status(12)=+1", "status(8)=0", "board()=-20");
      t.on(Scenes.BUSY + " feed(" + other + ") <turn 0>");
      t.changes("board()", -20, "status(12)=+1", "status(8)=0");
      t.on(Scenes.BUSY + " <turn 0> feed(" + other + ")");
      t.changes("board()", -26, "status(12)=+1", "status(8)=0", "board()=-20");
    }
  }

  private static void statements() {
    t.on(Scenes.BUSY);
    t.words("STATEMENTS, one or more, with ; between");
    t.fault("", 0);
    t.fault(" ", 1);
    t.fault("     ", 5);
    t.fault(";", 0);
    t.fault("  ;", 2);
    t.fault(";turn 0", 0);
    t.fault("turn 0;;turn 0", 7);
    t.fault("turn 0;", 7);
    t.fault("turn 0;  ", 9);
    t.fault("turn 0 turn 0", 7);
    t.fault("turn 0 1", 7);
    t.reads("turn 0", 1, "turn(0)");
    t.reads("turn 0;turn 1", 2, "turn(1)");
    t.on("");
    t.reads("turn1;".repeat(41) + "dig0", 42, "turn(1) d0");
    t.on("");
    t.reads("turn 0" + " ".repeat(244), 1, "");
    t.fault("turn 0" + " ".repeat(243) + ";", 250);
    t.fault(" ".repeat(250), 250);
    t.fault("a".repeat(250), 0);
    t.fault("turn " + "0".repeat(245), 5);
    t.fault(" ".repeat(249) + "7", 249);
    t.fault(";".repeat(250), 0);
  }

  private static void sizeStatement() {
    t.words("size W H (a new board: nothing on it, TURN 0, MOVES 0)");
    t.on(Scenes.BUSY);
    t.reads("size 1 1", 1, "size(1, 1)");
    t.reads("size 4 4", 1, "size(4, 4)");
    t.reads("size 1 4", 1, "size(1, 4)");
    t.reads("size 4 1", 1, "size(4, 1)");
    t.reads("size 04 01", 1, "size(4, 1)");
    t.reads("size 3 2", 1, "size(3, 2)");
    t.reads("turn 1;size 3 2", 2, "size(3, 2)");
    t.reads("size 1 1;hedge 3;size 1 2;hedge 6;dig 1", 5, "size(1, 2) h6 d1");
    t.fault("size 0 1", 5);
    t.fault("size 5 1", 5);
    t.fault("size 1 0", 7);
    t.fault("size 1 5", 7);
    t.fault("size 0 5", 5);
    t.fault("size 00 1", 5);
    t.fault("size 14 1", 5);
    t.fault("size 001 1", 5);
    t.fault("size 1 001", 7);
    t.fault("size", 4);
    t.fault("size ", 5);
    t.fault("size 1", 6);
    t.fault("size 1 ", 7);
    t.fault("size;1 1", 4);
    t.fault("size 1;1", 6);
    t.fault("size size 1 1", 5);
    t.fault("size 1 size", 7);
    t.fault("size 1 1 1", 9);
  }

  private static void moveStatements() {
    t.words("hedge E, dig F (MOVES of whose TURN it is, if they MAY be: E, F)");
    t.on(Scenes.BUSY);
    t.reads("hedge 1", 1, "h1");
    t.reads("hedge 16", 1, "h16");
    t.reads("hedge 01", 1, "h1");
    t.fault("hedge 17", 6);
    t.fault("hedge 99", 6);
    t.fault("hedge 100", 6);
    t.fault("hedge 101", 6);
    t.fault("hedge 001", 6);
    t.fault("hedge 0", 6);
    t.fault("hedge 1;hedge 1", 14);
    t.fault("hedge", 5);
    t.fault("hedge ;", 6);
    t.fault("hedge x", 6);
    t.reads("dig 1", 1, "d1");
    t.reads("dig 5", 1, "d5");
    t.reads("dig 05", 1, "d5");
    t.fault("dig 6", 4);
    t.fault("dig 99", 4);
    t.fault("dig 101", 4);
    t.fault("dig 4", 4);
    t.fault("dig 0", 4);
    t.fault("dig 1;dig 1", 10);
    t.fault("dig", 3);
    t.fault("dig;", 3);
    t.reads("size 1 1;hedge 3;hedge 0;hedge 1", 4, "size(1, 1) h3 h0 h1");
    t.fault("size 1 1;hedge 4", 15);
    t.fault("size 1 1;dig 1", 13);
    t.fault("size 1 1;hedge 0;hedge 1;hedge 2;hedge 3;dig 0", 45);
    t.reads("size 4 4;hedge 39;dig 15", 3, "size(4, 4) h39 d15");
    t.fault("size 4 4;hedge 40", 15);
    t.fault("size 4 4;dig 16", 13);
    t.reads("size 1 1;hedge 0;hedge 1;hedge 2;hedge 3", 5, "size(1, 1) h0 h1 h2 h3");
    t.reads("size 1 1;turn 1;hedge 0;hedge 1;hedge 2;hedge 3", 6, "size(1, 1) turn(1) h0 h1 h2 h3");
    t.on("");
    for (String none : new String[] {"", "x", ";", "100", "000", "turn 0", "12"}) {
      t.fault("hedge " + none, 6);
    }
    for (String none : new String[] {"", "x", ";", "100", "000", "turn 0", "4"}) {
      t.fault("dig " + none, 4);
    }
    t.on("size(1, 1) h0 h1 h2");
    t.reads("turn 0;hedge 3", 2, "turn(0) h3");
    t.reads("dig 0;hedge 3", 2, "d0 h3");
    t.fault("hedge 3;dig 0", 12);
  }

  private static void turnStatement() {
    t.words("turn P (0, 1)");
    t.on(Scenes.BUSY);
    t.reads("turn 0", 1, "turn(0)");
    t.reads("turn 1", 1, "turn(1)");
    t.fault("turn 2", 5);
    t.fault("turn 10", 5);
    t.fault("turn 99", 5);
    t.fault("turn 001", 5);
    t.fault("turn", 4);
    t.fault("turn -1", 5);
    t.fault("turn ;", 5);
    t.fault("turn x", 5);
  }

  private static void playerStatement() {
    t.words("player K A");
    t.reads("player 0 0", 1, "player(0, 0)");
    t.reads("player 5 9", 1, "player(5, 9)");
    t.reads("player 05 09", 1, "player(5, 9)");
    t.fault("player 6 0", 7);
    t.fault("player 10 0", 7);
    t.fault("player 0 10", 9);
    t.fault("player 0 99", 9);
    t.fault("player 000 0", 7);
    t.fault("player 0 000", 9);
    t.fault("player 6 10", 7);
    t.fault("player", 6);
    t.fault("player 0", 8);
    t.fault("player 0;", 8);
    t.fault("player x 0", 7);
    t.fault("player 0 0 0", 11);
    t.words("what there is no room for: its word");
    t.reads("player 0 0;player 1 1;player 2 2", 3, "player(0, 0) player(1, 1) player(2, 2)");
    t.fault("player 0 0;player 1 1;player 2 2;player 3 3", 33);
    t.fault("player 0 0;player 1 1;player 2 2; player 9 9", 34);
    t.fault("player 0 0;player 1 1;player 2 2;player", 33);
    t.on(SIX_PLAYERS);
    t.fault("player 0 0", 0);
    t.fault("turn 1;  player 0 0", 9);
    t.fault("player", 0);
    t.reads("turn 1", 1, "turn(1)");
  }

  private static void allOrNothing() {
    t.words("All comes to what there is, or nothing.");
    t.on(Scenes.BUSY);
    String text = "size 4 4;turn 1;hedge 9;dig 7;player 4 4;player 3 3";
    t.reads(text, 6, "size(4, 4) turn(1) h9 d7 player(4, 4) player(3, 3)");
    t.fault(text + ";", 52);
    t.fault(text + ";turn", 56);
    t.fault(text + ";turn 3", 57);
    t.fault(text + ";hedge 9", 58);
    t.fault(text + "!", 51);
    t.on("player(1, 5) <player 2 6;player 3 7;bad> board()");
    t.changes("player(4, 8)", 1, "status(7)=2", "playerOf(1, 0)=4", "playerOf(1, 1)=8");
  }

  private static void faults() {
    t.words("The FAULT: the place of the first byte of the first TOKEN that can't stand there");
    t.on(Scenes.BUSY);
    t.fault("x", 0);
    t.fault("  x", 2);
    t.fault("7", 0);
    t.fault("07 turn 0", 0);
    t.fault("hedges 1", 0);
    t.fault("hedg 1", 0);
    t.fault("digs 1", 0);
    t.fault("di 1", 0);
    t.fault("siz 1 1", 0);
    t.fault("sizes 1 1", 0);
    t.fault("turns 1", 0);
    t.fault("playe 0 0", 0);
    t.fault("players 0 0", 0);
    for (String word : new String[] {"tize 1 1", "sizd 1 1", "gedge 1", "hedgf 1", "eig 1", "dih 1", "uurn 0", "turo 0", "qlayer 0 0", "playes 0 0"}) {
      t.fault(word, 0);
      t.fault("dig 1;" + word, 6);
    }
    t.fault("turn 2;hedge 17", 5);
    t.fault("turn 0;x 0;y 0", 7);
    t.words("has more than 2 digits");
    t.fault("turn 111", 5);
    t.fault("turn 4294967296", 5);
    t.words("a byte that begins none");
    t.fault("!", 0);
    t.fault("turn 0;!", 7);
    t.fault("turn !", 5);
    t.words("THE TAPE's size, if it ends too early");
    t.fault("turn   ", 7);
    t.fault("hedge  ", 7);
    t.fault("player 1  ", 10);
  }

  private static void tapeBehind() {
    t.words("THE TAPE is a BOARD: how many STATEMENTS; -20 less the FAULT (that is refused, too: BAD).");
    t.words("THE TAPE is empty then, either way.");
    t.on("<turn 1>");
    t.like("board()", 1, "turn(1)");
    t.on("<turn 1> board()");
    t.changes("board()", -20, "status(12)=1");
    t.on("<turn 2> board()");
    t.changes("board()", -20, "status(12)=2");
    for (String gone : new String[] {"wipe()", "board()"}) {
      t.on("<turn1> " + gone + " <turn>");
      t.changes("board()", -24, "status(12)=+1", "status(8)=0", "board()=-20");
      t.on("<turn1> " + gone + " <tur>");
      t.changes("board()", -20, "status(12)=+1", "status(8)=0");
      t.on("<dig 0;dig 1> " + gone + " <turn 1>");
      t.changes("board()", 1, "status(8)=0", "status(5)=1", "board()=-20");
      t.on("<turn 0;;> " + gone + " <hedge 1>");
      t.changes("board()", 1, "status(8)=0", "status(2)=+1", "status(5)=+1", "status(6)=+1", "edgeOf(1, 0)=1", "fieldOf(1, 0)=1", "board()=-20");
      t.on("<player 12> " + gone + " <player 1>");
      t.changes("board()", -28, "status(12)=+1", "status(8)=0", "board()=-20");
    }
    t.on("<turn 2> board() <turn 1>");
    t.changes("board()", 1, "status(5)=1", "status(8)=0", "board()=-20");
  }
}
