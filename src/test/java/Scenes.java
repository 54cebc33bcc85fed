/** Scripts that more than one test starts from. */
final class Scenes {
  /** What image() kept is another board, another SEED and fewer PLAYERS than there are now. */
  private static final String KEPT = "seed(77) player(1, 4) size(2, 1) h3 d1 image() ";

  private static final String PLAYERS = "player(2, 9) player(5, 0) seed(5) ";

  /** SHELVES: 0 three ints, 1 forty bytes, 2 PLAYER 1, 3 no longs, 4 five ints; 5 to 7 NOTHING. */
  private static final String SHELVES =
      "row(0, 2, 3) set(0, 0, 7) set(0, 1, -1) set(0, 2, 100) row(1, 0, 40) set(1, 39, -5) show(2, 1) "
          + "row(3, 3, 0) row(4, 2, 5) ";

  /** One REFUSAL each of -2 to -5. */
  private static final String REFUSED = "size(0, 0) set(2, 0, 0) set(7, 0, 0) moves(99) ";

  /** A board of 3 by 2: FIELD 0 is SHUT and of OWNER 1, FIELD 4 is DUG, MOVES 5, TURN of 1. */
  static final String BOARD = "size(3, 2) h0 h3 h9 h10 d4 ";

  /** Something of all there can be, but for THE TAPE. */
  static final String BUSY = busy(BOARD);

  /** And something on THE TAPE. */
  static final String TAPE = "<turn 0;hedge> ";
  static final String ALL = BUSY + TAPE;

  private Scenes() {}

  /** Something of all there can be, but for THE TAPE, and a board of one's own. */
  static String busy(String board) {
    return KEPT + PLAYERS + SHELVES + REFUSED + board;
  }
}
