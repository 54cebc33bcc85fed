/**
 * Hedges and Ditches: a game of two on a board of fields, as ../shared/DOC.md tells it. The words
 * in capitals in the comments are the document's own terms.
 */
public final class HedgesAndDitches {
  public static final int NONE = -1;

  private static final int BAD = -2;
  private static final int OTHER = -3;
  private static final int NOTHING = -4;
  private static final int STUCK = -5;
  private static final int FULL = -6;
  private static final int NO_LEAD = -1000;
  private static final int FAULT_BASE = -20;

  private static final int SIDE_LIMIT = 4;
  private static final int FIELD_LIMIT = 16;
  private static final int FIRST_DIG = 100;
  private static final int BEST_LIMIT = 7;
  private static final int TOLD_LIMIT = 40;
  private static final int GOES_LIMIT = 40;
  private static final int GAMES_LIMIT = 20;

  /** No LEAD comes near this: 16 FIELDS and 16 LANES are all there can be. */
  private static final int ANY_LEAD = 100;

  /**
   * Inside, a MOVE is a SLOT: the EDGE's number, or this and the FIELD's. So all MOVES that MAY be
   * are the bits of one long, in the order of their numbers.
   */
  private static final int DIG_SLOT = 40;

  /** A GAME has no more MOVES than there are SLOTS, since none can be made twice. */
  private static final int SLOT_LIMIT = 56;

  private static final int PLAYER = 0;
  private static final int SHUTTER = 1;
  private static final int DIGGER = 2;
  private static final int CAREFUL = 3;
  private static final int RIMMER = 4;
  private static final int CHANCE = 5;
  private static final int KINDS = 6;

  /** The KIND that each KIND is under. */
  private static final int[] KIND_ABOVE = {NONE, PLAYER, PLAYER, SHUTTER, DIGGER, PLAYER};

  private static final int CREW_LIMIT = 6;
  private static final int AMOUNT_LIMIT = 9;

  private static final int SHELF_COUNT = 8;
  private static final int ROW_LIMIT = 40;
  private static final int BYTES = 0;
  private static final int SHORTS = 1;
  private static final int INTS = 2;
  private static final int LONGS = 3;
  private static final int BOOLEANS = 4;
  private static final int SORTS = 5;
  private static final int FIRST_PLAYER = 10;

  private static final int TAPE_LIMIT = 250;
  private static final int BYTE_TOP = 255;
  private static final char BLANK = ' ';
  private static final char SIGN = ';';

  private static final int FIRST_REFUSAL_STATUS = 12;
  private static final int REFUSAL_SORTS = 5;

  private final Game now = new Game();
  private final Game thought = new Game();
  private final Game kept = new Game();

  /** How many PLAYERS were kept. PLAYERS never change, so their count is all there is to keep. */
  private int keptCrew = NONE;

  private final int[] kinds = new int[CREW_LIMIT];
  private final int[] amounts = new int[CREW_LIMIT];
  private int crew = 0;

  /** The PLAYERS there are if what is read from THE TAPE comes to what there is. */
  private int crewRead = 0;

  private final Shelf[] shelves = new Shelf[SHELF_COUNT];
  private final Tape tape = new Tape();
  private final int[] refusals = new int[REFUSAL_SORTS];

  public HedgesAndDitches() {
    for (int s = 0; s < shelves.length; s++) {
      shelves[s] = new Shelf();
    }
  }

  // ---- SHELVES

  public int row(int s, int sort, int n) {
    Shelf shelf = shelfAt(s);
    if (shelf == null || sort < 0 || sort >= SORTS || n < 0 || n > ROW_LIMIT) {
      return refuse(BAD);
    }
    shelf.layRow(sort, n);
    return 1;
  }

  public int set(int s, int i, long v) {
    Shelf shelf = shelfAt(s);
    int trouble = rowTrouble(shelf);
    if (trouble != 0) {
      return refuse(trouble);
    }
    if (shelf == null || !shelf.reaches(i)) {
      return refuse(BAD);
    }
    shelf.put(i, v);
    return 1;
  }

  public int copy(int p, int q, int i, int j, int n) {
    Shelf from = shelfAt(p);
    Shelf to = shelfAt(q);
    if (from == null || to == null) {
      return refuse(BAD);
    }
    if (from.bearsPlayer() || to.bearsPlayer()) {
      return refuse(OTHER);
    }
    if (from.bearsRow() && to.bearsRow() && from.content != to.content) {
      return refuse(OTHER);
    }
    if (!from.bearsRow() || !to.bearsRow()) {
      return refuse(NOTHING);
    }
    if (!from.reachesSpan(i, n) || !to.reachesSpan(j, n)) {
      return refuse(BAD);
    }
    System.arraycopy(from.elements, i, to.elements, j, n);
    return n;
  }

  public long element(int s, int i) {
    Shelf shelf = shelfAt(s);
    return shelf == null ? 0L : shelf.elementAt(i);
  }

  public int holds(int s) {
    Shelf shelf = shelfAt(s);
    return shelf == null ? NONE : shelf.content;
  }

  public int show(int s, int player) {
    Shelf shelf = shelfAt(s);
    if (shelf == null || (player != NONE && !isPlayer(player))) {
      return refuse(BAD);
    }
    if (player == NONE) {
      shelf.empty();
    } else {
      shelf.bear(player);
    }
    return 1;
  }

  public int says(int s, int kind) {
    Shelf shelf = shelfAt(s);
    if (shelf == null || kind < 0 || kind >= KINDS) {
      return refuse(BAD);
    }
    int shown = shelf.content - FIRST_PLAYER;
    if (shelf.bearsRow() || (shelf.bearsPlayer() && !isUnder(kindOf(shown), kind))) {
      return refuse(OTHER);
    }
    if (!shelf.bearsPlayer()) {
      return refuse(NOTHING);
    }
    if (kind == PLAYER) {
      return amountOf(shown);
    }
    return kind == CHANCE ? Long.bitCount(now.openSlots()) : thoughtChoice(shown);
  }

  // ---- the board, PLAYERS and THE TAPE

  public int size(int w, int h) {
    if (!isSide(w) || !isSide(h)) {
      return refuse(BAD);
    }
    now.lay(w, h);
    return now.edges;
  }

  public int player(int kind, int a) {
    if (kind < 0 || kind >= KINDS || a < 0 || a > AMOUNT_LIMIT) {
      return refuse(BAD);
    }
    if (crew >= CREW_LIMIT) {
      return refuse(FULL);
    }
    enlist(crew, kind, a);
    crew++;
    return crew - 1;
  }

  public int turn(int p) {
    if (!isSeat(p)) {
      return refuse(BAD);
    }
    int was = now.turn;
    now.turn = p;
    return was;
  }

  public int feed(int letter) {
    if (letter < 0 || letter > BYTE_TOP) {
      return refuse(BAD);
    }
    if (tape.length >= TAPE_LIMIT) {
      return refuse(FULL);
    }
    tape.append(letter);
    return tape.length;
  }

  public int wipe() {
    int was = tape.length;
    tape.length = 0;
    return was;
  }

  public int board() {
    thought.become(now);
    crewRead = crew;
    tape.rewind();
    int statements = readStatements();
    int fault = tape.from;
    tape.length = 0;
    if (statements == NONE) {
      refuse(BAD);
      return FAULT_BASE - fault;
    }
    now.become(thought);
    crew = crewRead;
    return statements;
  }

  // ---- what is there

  public int fieldOf(int field, int what) {
    if (!now.isField(field)) {
      return refuse(BAD);
    }
    int bit = 1 << field;
    switch (what) {
      case 0:
        return Long.bitCount(now.around(bit) & now.hedges);
      case 1:
        return truth((now.dug & bit) != 0);
      case 2:
        return seatOf(bit, now.ownedBy0, now.ownedBy1);
      case 3:
        return seatOf(bit, now.tinted(0), now.tinted(1));
      case 4:
        return now.edgeAbove(field);
      case 5:
        return now.edgeBelow(field);
      case 6:
        return now.edgeLeft(field);
      case 7:
        return now.edgeRight(field);
      case 8:
        return truth((now.touched(now.rimEdges) & bit) != 0);
      default:
        return refuse(BAD);
    }
  }

  public int edgeOf(int edge, int what) {
    if (!now.isEdge(edge)) {
      return refuse(BAD);
    }
    switch (what) {
      case 0:
        return truth(now.isHedged(edge));
      case 1:
        return now.fieldAhead(edge);
      case 2:
        return now.fieldBeyond(edge);
      default:
        return refuse(BAD);
    }
  }

  public int playerOf(int player, int what) {
    if (!isPlayer(player)) {
      return refuse(BAD);
    }
    switch (what) {
      case 0:
        return kindOf(player);
      case 1:
        return amountOf(player);
      default:
        return refuse(BAD);
    }
  }

  public int may(int move) {
    int slot = now.slotOf(move);
    return slot == NONE ? refuse(BAD) : truth(now.isOpen(slot));
  }

  public int moves(int i) {
    long open = now.openSlots();
    if (i < NONE) {
      return refuse(BAD);
    }
    if (i == NONE) {
      return Long.bitCount(open);
    }
    return i >= Long.bitCount(open) ? refuse(STUCK) : moveOf(slotAt(open, i));
  }

  public int score(int p) {
    return isSeat(p) ? now.scoreOf(p) : refuse(BAD);
  }

  public int lead(int p) {
    return isSeat(p) ? now.leadOf(p) : refuseLead(BAD);
  }

  public int lanes(int p) {
    return isSeat(p) ? now.lanesAmong(now.tinted(p)) : refuse(BAD);
  }

  public int ditch(int field) {
    if (!now.isField(field)) {
      return refuse(BAD);
    }
    int bit = 1 << field;
    return (now.dug & bit) == 0 ? refuse(STUCK) : now.hanging(bit, now.dug, 0L);
  }

  public int drained() {
    return now.drainedFields();
  }

  public int thirds() {
    return now.withThree(now.hedges);
  }

  public int chain(int field) {
    return now.isField(field) ? now.chainFrom(field) : refuse(BAD);
  }

  public int longest() {
    int found = 0;
    int length = 0;
    for (int field = 0; field < now.fields; field++) {
      int here = now.chainFrom(field);
      if (here > length) {
        length = here;
        found = field;
      }
    }
    return found;
  }

  public int shuts(int edge) {
    if (!now.isEdge(edge)) {
      return refuse(BAD);
    }
    if (now.isHedged(edge)) {
      return refuse(STUCK);
    }
    return Integer.bitCount(now.closed(now.hedges | 1L << edge) & ~now.shutFields());
  }

  public int calm() {
    return Long.bitCount(now.calmEdges());
  }

  public int part(int field) {
    return now.isField(field) ? now.hanging(1 << field, now.all, now.hedges) : refuse(BAD);
  }

  public int parts() {
    return now.countHanging(now.all, now.hedges);
  }

  public int ditches() {
    return now.countHanging(now.dug, 0L);
  }

  public int owned(int p) {
    return isSeat(p) ? now.ownedBy(p) : refuse(BAD);
  }

  public int coloured(int p) {
    return isSeat(p) ? now.tinted(p) : refuse(BAD);
  }

  public int gives(int edge) {
    if (!now.isEdge(edge)) {
      return refuse(BAD);
    }
    if (now.isHedged(edge)) {
      return refuse(STUCK);
    }
    return Integer.bitCount(now.withThree(now.hedges | 1L << edge) & ~now.withThree(now.hedges));
  }

  public int gaps() {
    return Long.bitCount(now.rimEdges & ~now.hedges);
  }

  public int rim() {
    return now.touched(now.rimEdges);
  }

  public int leader() {
    int ahead = now.leadOf(0);
    if (ahead == 0) {
      return NONE;
    }
    return ahead > 0 ? 0 : 1;
  }

  public int bare() {
    return now.all & ~now.touched(now.hedges);
  }

  public int soft() {
    return now.softFields();
  }

  // ---- what comes of it, in thought

  public int after(int move) {
    int slot = now.slotOf(move);
    if (slot == NONE) {
      return refuseLead(BAD);
    }
    if (!now.isOpen(slot) || !isNearEnd()) {
      return refuseLead(STUCK);
    }
    thought.become(now);
    thought.make(slot);
    return -outcome(thought, -ANY_LEAD, ANY_LEAD, BEST_LIMIT - 1);
  }

  public int best() {
    if (!isNearEnd()) {
      return refuse(STUCK);
    }
    long rest = now.openSlots();
    int found = NONE;
    int most = -ANY_LEAD;
    for (int i = 0; i < BEST_LIMIT && rest != 0L; i++) {
      int slot = firstSlot(rest);
      rest &= rest - 1L;
      thought.become(now);
      thought.make(slot);
      int his = -outcome(thought, -ANY_LEAD, -most, BEST_LIMIT - 1);
      if (his > most) {
        most = his;
        found = slot;
      }
    }
    return moveOf(found);
  }

  public int worth() {
    if (!isNearEnd()) {
      return refuseLead(STUCK);
    }
    thought.become(now);
    return outcome(thought, -ANY_LEAD, ANY_LEAD, BEST_LIMIT);
  }

  public int choice(int player) {
    return isPlayer(player) ? thoughtChoice(player) : refuse(BAD);
  }

  public int played(int player, int other, int what) {
    if (!isPlayer(player) || !isPlayer(other) || what < 0 || what > 2) {
      return refuseLead(BAD);
    }
    int first = playOut(player, other);
    if (what == 0) {
      return thought.made - now.made;
    }
    return what == 1 ? thought.leadOf(0) : moveOf(first);
  }

  public int wins(int player) {
    return isPlayer(player) ? winnings(player) : refuseLead(BAD);
  }

  public int champion() {
    if (crew <= 0) {
      return refuse(STUCK);
    }
    int found = 0;
    int most = winnings(0);
    for (int player = 1; player < crew; player++) {
      int his = winnings(player);
      if (his > most) {
        most = his;
        found = player;
      }
    }
    return found;
  }

  public int likenesses() {
    int count = 0;
    for (int turned = 0; turned < waysToTurn(); turned++) {
      count += truth(now.isAlike(turned));
    }
    return count;
  }

  public int alike(int turned) {
    if (turned < 0 || turned >= waysToTurn()) {
      return refuse(BAD);
    }
    return truth(now.isAlike(turned));
  }

  public int judge(int s, int n) {
    int trouble = toldTrouble(shelfAt(s), n);
    return trouble == 0 ? toldWrong(shelfAt(s), n) : refuse(trouble);
  }

  public int behind(int s, int n) {
    int trouble = toldTrouble(shelfAt(s), n);
    if (trouble != 0) {
      return refuseLead(trouble);
    }
    return toldWrong(shelfAt(s), n) == NONE ? thought.leadOf(0) : refuseLead(STUCK);
  }

  // ---- in truth

  public int done(int s, int n) {
    int trouble = toldTrouble(shelfAt(s), n);
    if (trouble != 0) {
      return refuse(trouble);
    }
    if (toldWrong(shelfAt(s), n) != NONE) {
      return refuse(STUCK);
    }
    now.become(thought);
    return now.made;
  }

  public int move(int move) {
    int slot = now.slotOf(move);
    if (slot == NONE) {
      return refuse(BAD);
    }
    if (!now.isOpen(slot)) {
      return refuse(STUCK);
    }
    int before = now.shutFields();
    now.make(slot);
    return Integer.bitCount(now.shutFields() & ~before);
  }

  public int goes(int player, int n) {
    if (!isPlayer(player) || n < 1 || n > GOES_LIMIT) {
      return refuse(BAD);
    }
    for (int i = 0; i < n; i++) {
      int slot = chosenSlot(now, player);
      if (slot == NONE) {
        return i;
      }
      now.make(slot);
    }
    return n;
  }

  public int games(int n) {
    if (n < 1 || n > GAMES_LIMIT) {
      return refuse(BAD);
    }
    thought.become(now);
    int won = 0;
    for (int i = 0; i < n; i++) {
      thought.clear();
      endByDraws();
      won += truth(thought.leadOf(0) > 0);
    }
    now.seed = thought.seed;
    return won;
  }

  public int seed(int v) {
    int was = now.seed;
    now.seed = v;
    return was;
  }

  public int image() {
    kept.become(now);
    keptCrew = crew;
    return 1;
  }

  public int back() {
    if (keptCrew == NONE) {
      return refuse(STUCK);
    }
    now.become(kept);
    crew = keptCrew;
    for (int s = 0; s < SHELF_COUNT; s++) {
      dropLostPlayer(shelfAt(s));
    }
    return 1;
  }

  public int status(int what) {
    switch (what) {
      case 0:
        return now.width;
      case 1:
        return now.height;
      case 2:
        return Long.bitCount(now.hedges);
      case 3:
        return Integer.bitCount(now.dug);
      case 4:
        return Integer.bitCount(now.shutFields());
      case 5:
        return now.turn;
      case 6:
        return now.made;
      case 7:
        return crew;
      case 8:
        return tape.length;
      case 9:
        return now.seed;
      case 10:
        return fullShelves();
      case 11:
        return now.edges;
      default:
        return refusalCount(what);
    }
  }

  // ---- REFUSALS

  private int refuse(int why) {
    int i = BAD - why;
    if (i >= 0 && i < refusals.length) {
      refusals[i]++;
    }
    return why;
  }

  private int refuseLead(int why) {
    return NO_LEAD + refuse(why);
  }

  private int refusalCount(int what) {
    if (what < FIRST_REFUSAL_STATUS || what - FIRST_REFUSAL_STATUS >= refusals.length) {
      return NONE;
    }
    return refusals[what - FIRST_REFUSAL_STATUS];
  }

  private static int truth(boolean is) {
    return is ? 1 : 0;
  }

  private static boolean isSeat(int p) {
    return p == 0 || p == 1;
  }

  private static boolean isSide(int length) {
    return length >= 1 && length <= SIDE_LIMIT;
  }

  /** Which of the two has the FIELD among his. */
  private static int seatOf(int bit, int ofSeat0, int ofSeat1) {
    if ((ofSeat0 & bit) != 0) {
      return 0;
    }
    return (ofSeat1 & bit) != 0 ? 1 : NONE;
  }

  // ---- SLOTS

  private static int moveOf(int slot) {
    return slot < DIG_SLOT ? slot : FIRST_DIG + slot - DIG_SLOT;
  }

  private static int firstSlot(long slots) {
    return slots == 0L ? NONE : Long.bitCount((slots & -slots) - 1L);
  }

  private static int slotAt(long slots, int i) {
    long rest = slots;
    for (int k = 0; k < i && k < SLOT_LIMIT; k++) {
      rest &= rest - 1L;
    }
    return firstSlot(rest);
  }

  // ---- shelves, inside

  private Shelf shelfAt(int s) {
    return s < 0 || s >= shelves.length ? null : shelves[s];
  }

  /** Why there is no ROW in a SHELF, or 0. */
  private static int rowTrouble(Shelf shelf) {
    if (shelf == null) {
      return BAD;
    }
    if (shelf.bearsPlayer()) {
      return OTHER;
    }
    return shelf.bearsRow() ? 0 : NOTHING;
  }

  /** Why n elements of a SHELF are no told GAME, or 0. */
  private static int toldTrouble(Shelf shelf, int n) {
    if (shelf == null || n < 0 || n > TOLD_LIMIT) {
      return BAD;
    }
    int trouble = rowTrouble(shelf);
    return trouble == 0 && n > shelf.length ? BAD : trouble;
  }

  /** Tells the GAME in thought, as far as it is not WRONG; which element is WRONG, or NONE. */
  private int toldWrong(Shelf shelf, int n) {
    thought.become(now);
    for (int i = 0; i < n; i++) {
      long told = shelf == null ? NONE : shelf.elementAt(i);
      int slot = told == (int) told ? thought.slotOf((int) told) : NONE;
      if (slot == NONE || !thought.isOpen(slot)) {
        return i;
      }
      thought.make(slot);
    }
    return NONE;
  }

  private void dropLostPlayer(Shelf shelf) {
    if (shelf != null && shelf.bearsPlayer() && !isPlayer(shelf.content - FIRST_PLAYER)) {
      shelf.empty();
    }
  }

  private int fullShelves() {
    int count = 0;
    for (int s = 0; s < SHELF_COUNT; s++) {
      count += truth(holds(s) != NONE);
    }
    return count;
  }

  // ---- PLAYERS, inside

  private boolean isPlayer(int player) {
    return player >= 0 && player < crew;
  }

  private int kindOf(int player) {
    return player >= 0 && player < kinds.length ? kinds[player] : PLAYER;
  }

  private int amountOf(int player) {
    return player >= 0 && player < amounts.length ? amounts[player] : 0;
  }

  private void enlist(int player, int kind, int a) {
    if (player >= 0 && player < kinds.length && player < amounts.length) {
      kinds[player] = kind;
      amounts[player] = a;
    }
  }

  /** Whether a KIND is the other KIND, or under it. */
  private static boolean isUnder(int kind, int other) {
    int at = kind;
    for (int i = 0; i < KINDS && at != other && at >= 0 && at < KIND_ABOVE.length; i++) {
      at = KIND_ABOVE[at];
    }
    return at == other;
  }

  /** The SLOT that a PLAYER chooses in a GAME (a DRAW changes its SEED); NONE: it is over. */
  private int chosenSlot(Game game, int player) {
    long open = game.openSlots();
    long wanted = 0L;
    switch (kindOf(player)) {
      case SHUTTER:
        wanted = game.shuttingEdges();
        break;
      case CAREFUL:
        wanted = game.shuttingEdges();
        if (wanted == 0L) {
          wanted = game.calmEdges();
        }
        break;
      case DIGGER:
        wanted = game.digsBelow(amountOf(player), game.all);
        break;
      case RIMMER:
        wanted = game.digsBelow(amountOf(player), game.touched(game.rimEdges));
        break;
      case CHANCE:
        return game.drawnSlot(open);
      default:
        break;
    }
    return firstSlot(wanted == 0L ? open : wanted);
  }

  private int thoughtChoice(int player) {
    thought.become(now);
    return moveOf(chosenSlot(thought, player));
  }

  /** Plays in thought from now to the end; the first SLOT, or NONE. */
  private int playOut(int beginner, int other) {
    thought.become(now);
    int first = NONE;
    for (int i = 0; i < SLOT_LIMIT; i++) {
      int slot = chosenSlot(thought, thought.turn == now.turn ? beginner : other);
      if (slot == NONE) {
        break;
      }
      if (i == 0) {
        first = slot;
      }
      thought.make(slot);
    }
    return first;
  }

  private int winnings(int player) {
    int sum = 0;
    for (int other = 0; other < crew; other++) {
      if (other != player) {
        playOut(player, other);
        sum += thought.leadOf(now.turn);
        playOut(other, player);
        sum += thought.leadOf(1 - now.turn);
      }
    }
    return sum;
  }

  private void endByDraws() {
    for (int i = 0; i < SLOT_LIMIT; i++) {
      int slot = thought.drawnSlot(thought.openSlots());
      if (slot == NONE) {
        break;
      }
      thought.make(slot);
    }
  }

  // ---- BEST, inside

  private boolean isNearEnd() {
    return Long.bitCount(now.openSlots()) <= BEST_LIMIT;
  }

  /**
   * The LEAD at the end of whose TURN it is, if both make the best of it. What lies outside of low
   * and high is only told to lie there: the other one would not let it come to that. The depth is
   * as many MOVES as are left at most.
   */
  private static int outcome(Game game, int low, int high, int depth) {
    long rest = game.openSlots();
    if (rest == 0L || depth <= 0) {
      return game.leadOf(game.turn);
    }
    long hedges = game.hedges;
    int dug = game.dug;
    int ownedBy0 = game.ownedBy0;
    int ownedBy1 = game.ownedBy1;
    int most = -ANY_LEAD;
    for (int i = 0; i < BEST_LIMIT && rest != 0L && most < high; i++) {
      game.make(firstSlot(rest));
      most = Math.max(most, -outcome(game, -high, -Math.max(low, most), depth - 1));
      game.unmake(hedges, dug, ownedBy0, ownedBy1);
      rest &= rest - 1L;
    }
    return most;
  }

  // ---- TURNED

  private int waysToTurn() {
    return now.width == now.height ? 8 : 4;
  }

  // ---- a BOARD from THE TAPE: read into thought, the FAULT being where THE TAPE's token stands

  private int readStatements() {
    for (int count = 1; count <= TAPE_LIMIT; count++) {
      if (!readStatement()) {
        return NONE;
      }
      tape.step();
      if (tape.isAtEnd()) {
        return count;
      }
      if (!tape.isSign()) {
        return NONE;
      }
    }
    return NONE;
  }

  private boolean readStatement() {
    tape.step();
    if (tape.isWord("size")) {
      return readSize();
    }
    if (tape.isWord("hedge")) {
      return readMove(0);
    }
    if (tape.isWord("dig")) {
      return readMove(FIRST_DIG);
    }
    if (tape.isWord("turn")) {
      return readTurn();
    }
    return tape.isWord("player") && crewRead < CREW_LIMIT && readPlayer();
  }

  /** The next token's NUMBER, if it is one from least to most; NONE. */
  private int readNumber(int least, int most) {
    tape.step();
    int number = tape.numberHere();
    return number >= least && number <= most ? number : NONE;
  }

  private boolean readSize() {
    int w = readNumber(1, SIDE_LIMIT);
    if (w == NONE) {
      return false;
    }
    int h = readNumber(1, SIDE_LIMIT);
    if (h == NONE) {
      return false;
    }
    thought.lay(w, h);
    return true;
  }

  private boolean readMove(int base) {
    int number = readNumber(0, FIRST_DIG - 1);
    int slot = number == NONE ? NONE : thought.slotOf(base + number);
    if (slot == NONE || !thought.isOpen(slot)) {
      return false;
    }
    thought.make(slot);
    return true;
  }

  private boolean readTurn() {
    int p = readNumber(0, 1);
    if (p == NONE) {
      return false;
    }
    thought.turn = p;
    return true;
  }

  /** PLAYERS read are put behind those there are, where nobody sees them until they count. */
  private boolean readPlayer() {
    int kind = readNumber(0, KINDS - 1);
    if (kind == NONE) {
      return false;
    }
    int a = readNumber(0, AMOUNT_LIMIT);
    if (a == NONE) {
      return false;
    }
    enlist(crewRead, kind, a);
    crewRead++;
    return true;
  }

  /** A GAME as it stands: the board, whose TURN it is, the MOVES made, and the SEED. */
  private static final class Game {
    private static final int SEED_FACTOR = 1103515245;
    private static final int SEED_ADDEND = 12345;

    int width;
    int height;
    int fields;
    int edges;
    /** The number of the first upright EDGE. */
    int uprights;
    /** FIELDS, as bits: all of them, those of the first COLUMN, those of the last. */
    int all;
    int leftmost;
    int rightmost;
    long rimEdges;

    long hedges;
    int dug;
    int ownedBy0;
    int ownedBy1;
    int turn;
    int made;
    int seed = 1;

    Game() {
      lay(2, 2);
    }

    /** A new board. */
    void lay(int w, int h) {
      width = w;
      height = h;
      fields = w * h;
      uprights = (h + 1) * w;
      edges = uprights + h * (w + 1);
      all = (1 << fields) - 1;
      leftmost = 0;
      for (int r = 0; r < h; r++) {
        leftmost |= 1 << r * w;
      }
      rightmost = leftmost << w - 1;
      rimEdges = 0L;
      for (int edge = 0; edge < edges; edge++) {
        if (fieldAhead(edge) == NONE || fieldBeyond(edge) == NONE) {
          rimEdges |= 1L << edge;
        }
      }
      clear();
    }

    void clear() {
      hedges = 0L;
      dug = 0;
      ownedBy0 = 0;
      ownedBy1 = 0;
      turn = 0;
      made = 0;
    }

    void become(Game other) {
      width = other.width;
      height = other.height;
      fields = other.fields;
      edges = other.edges;
      uprights = other.uprights;
      all = other.all;
      leftmost = other.leftmost;
      rightmost = other.rightmost;
      rimEdges = other.rimEdges;
      hedges = other.hedges;
      dug = other.dug;
      ownedBy0 = other.ownedBy0;
      ownedBy1 = other.ownedBy1;
      turn = other.turn;
      made = other.made;
      seed = other.seed;
    }

    // -- where FIELDS and EDGES lie

    boolean isField(int field) {
      return field >= 0 && field < fields;
    }

    boolean isEdge(int edge) {
      return edge >= 0 && edge < edges;
    }

    boolean isHedged(int edge) {
      return (hedges >>> edge & 1L) != 0L;
    }

    int rowOf(int field) {
      return width > 0 ? field / width : 0;
    }

    int edgeAbove(int field) {
      return field;
    }

    int edgeBelow(int field) {
      return field + width;
    }

    int edgeLeft(int field) {
      return uprights + field + rowOf(field);
    }

    int edgeRight(int field) {
      return edgeLeft(field) + 1;
    }

    /** In which row of upright EDGES an EDGE stands. */
    int uprightRow(int edge) {
      int line = width + 1;
      return line > 0 ? (edge - uprights) / line : 0;
    }

    /** The FIELD above or left of an EDGE. */
    int fieldAhead(int edge) {
      if (edge < uprights) {
        return edge >= width ? edge - width : NONE;
      }
      int r = uprightRow(edge);
      int column = edge - uprights - r * (width + 1);
      return column > 0 ? r * width + column - 1 : NONE;
    }

    /** The FIELD below or right of an EDGE. */
    int fieldBeyond(int edge) {
      if (edge < uprights) {
        return edge < fields ? edge : NONE;
      }
      int r = uprightRow(edge);
      int column = edge - uprights - r * (width + 1);
      return column < width ? r * width + column : NONE;
    }

    // -- sets of FIELDS and of EDGES, as bits

    int withAbove(long some) {
      return (int) some & all;
    }

    int withBelow(long some) {
      return (int) (some >>> width) & all;
    }

    /** FIELDS whose left EDGE (side 0) or right one (side 1) is among some. */
    int withUpright(long some, int side) {
      int columns = (1 << width) - 1;
      int found = 0;
      for (int r = 0; r < height; r++) {
        found |= ((int) (some >>> uprights + r * (width + 1) + side) & columns) << r * width;
      }
      return found;
    }

    /** FIELDS that have an EDGE among some. */
    int touched(long some) {
      return withAbove(some) | withBelow(some) | withUpright(some, 0) | withUpright(some, 1);
    }

    /** FIELDS that have all four EDGES among some. */
    int closed(long some) {
      return withAbove(some) & withBelow(some) & withUpright(some, 0) & withUpright(some, 1);
    }

    /** FIELDS that have just three EDGES among some. */
    int withThree(long some) {
      int above = withAbove(some);
      int below = withBelow(some);
      int left = withUpright(some, 0);
      int right = withUpright(some, 1);
      return above & below & (left ^ right) | left & right & (above ^ below);
    }

    /** FIELDS that have just two EDGES among some. */
    int withTwo(long some) {
      int above = withAbove(some);
      int below = withBelow(some);
      int left = withUpright(some, 0);
      int right = withUpright(some, 1);
      return (above ^ below) & (left ^ right)
          | above & below & ~left & ~right
          | left & right & ~above & ~below;
    }

    /** All EDGES of some FIELDS. */
    long around(int some) {
      int columns = (1 << width) - 1;
      long found = (long) some | (long) some << width;
      for (int r = 0; r < height; r++) {
        int line = some >>> r * width & columns;
        found |= (long) (line | line << 1) << uprights + r * (width + 1);
      }
      return found;
    }

    /** FIELDS side by side with some, over EDGES that are not among the walls. */
    int beside(int some, long walls) {
      int up = (some & ~withAbove(walls)) >>> width;
      int down = (some & ~withBelow(walls)) << width & all;
      int left = (some & ~withUpright(walls, 0) & ~leftmost) >>> 1;
      int right = (some & ~withUpright(walls, 1) & ~rightmost) << 1;
      return up | down | left | right;
    }

    /** FIELDS among those within that hang together with the ones to start from. */
    int hanging(int start, int within, long walls) {
      int found = start & within;
      for (int i = 0; i < FIELD_LIMIT; i++) {
        int grown = (found | beside(found, walls)) & within;
        if (grown == found) {
          break;
        }
        found = grown;
      }
      return found;
    }

    int countHanging(int within, long walls) {
      int rest = within;
      int count = 0;
      for (int i = 0; i < FIELD_LIMIT && rest != 0; i++) {
        rest &= ~hanging(rest & -rest, within, walls);
        count++;
      }
      return count;
    }

    // -- MOVES

    int slotOf(int move) {
      if (isEdge(move)) {
        return move;
      }
      return move >= FIRST_DIG && isField(move - FIRST_DIG) ? move - FIRST_DIG + DIG_SLOT : NONE;
    }

    long freeEdges() {
      return ~hedges & (1L << edges) - 1L;
    }

    int softFields() {
      return all & ~dug & ~shutFields();
    }

    /** The SLOTS of all MOVES that MAY be. */
    long openSlots() {
      return freeEdges() | (long) softFields() << DIG_SLOT;
    }

    boolean isOpen(int slot) {
      return (openSlots() >>> slot & 1L) != 0L;
    }

    /** Makes a MOVE that MAY be. */
    void make(int slot) {
      if (slot < DIG_SLOT) {
        hedges |= 1L << slot;
        int shut = closed(hedges) & ~shutFields();
        if (turn == 0) {
          ownedBy0 |= shut;
        } else {
          ownedBy1 |= shut;
        }
      } else {
        dug |= 1 << slot - DIG_SLOT;
      }
      turn = 1 - turn;
      made++;
    }

    /** Takes the last MOVE back, told how things stood ahead of it. */
    void unmake(long hedgesAhead, int dugAhead, int ownedBy0Ahead, int ownedBy1Ahead) {
      hedges = hedgesAhead;
      dug = dugAhead;
      ownedBy0 = ownedBy0Ahead;
      ownedBy1 = ownedBy1Ahead;
      turn = 1 - turn;
      made--;
    }

    // -- whose is what

    /** FIELDS become SHUT by MOVES alone, so those that are SHUT are those that have an OWNER. */
    int shutFields() {
      return ownedBy0 | ownedBy1;
    }

    int ownedBy(int p) {
      return p == 0 ? ownedBy0 : ownedBy1;
    }

    int drainedFields() {
      return hanging(touched(rimEdges & ~hedges), dug, 0L);
    }

    /** FIELDS that no DITCH which DRAINS takes the COLOUR from. */
    int dryFields() {
      int wet = drainedFields();
      return all & ~(wet | beside(wet, 0L));
    }

    int tinted(int p) {
      return ownedBy(p) & dryFields();
    }

    int lanesAmong(int some) {
      int level = some & some >>> 1 & some >>> 2 & ~rightmost & ~(rightmost >>> 1);
      int upright = some & some >>> width & some >>> 2 * width;
      return Integer.bitCount(level) + Integer.bitCount(upright);
    }

    int scoreOf(int p) {
      return Integer.bitCount(tinted(p)) + lanesAmong(tinted(1 - p));
    }

    int leadOf(int p) {
      int dry = dryFields();
      int his = ownedBy(p) & dry;
      int others = ownedBy(1 - p) & dry;
      return Integer.bitCount(his) + lanesAmong(others) - Integer.bitCount(others) - lanesAmong(his);
    }

    // -- what PLAYERS look for

    /** EDGES by which a FIELD becomes SHUT. */
    long shuttingEdges() {
      return around(withThree(hedges)) & freeEdges();
    }

    /** EDGES a HEDGE on which leaves no FIELD with just three: it must shut those that have three. */
    long calmEdges() {
      long calm = freeEdges() & ~around(withTwo(hedges));
      int rest = withThree(hedges);
      for (int i = 0; i < FIELD_LIMIT && rest != 0; i++) {
        int third = rest & -rest;
        calm &= around(third);
        rest ^= third;
      }
      return calm;
    }

    /** SLOTS to dig one of some FIELDS in, while fewer than a are DUG. */
    long digsBelow(int a, int some) {
      return Integer.bitCount(dug) < a ? (long) (softFields() & some) << DIG_SLOT : 0L;
    }

    int drawBelow(int n) {
      seed = seed * SEED_FACTOR + SEED_ADDEND;
      return n > 0 ? (seed >>> 16) % n : 0;
    }

    /** The SLOT of all open ones that a DRAW tells; none is drawn if there are none. */
    int drawnSlot(long open) {
      return open == 0L ? NONE : slotAt(open, drawBelow(Long.bitCount(open)));
    }

    // -- CHAINS

    int chainFrom(int field) {
      long walls = hedges;
      int at = field;
      int count = 0;
      for (int i = 0; i < FIELD_LIMIT; i++) {
        if (!isField(at) || (withThree(walls) >>> at & 1) == 0) {
          break;
        }
        int last = firstSlot(around(1 << at) & ~walls);
        walls |= 1L << last;
        count++;
        at = fieldAhead(last) == at ? fieldBeyond(last) : fieldAhead(last);
      }
      return count;
    }

    // -- TURNED

    boolean isAlike(int turned) {
      return turnedEdges(hedges, turned) == hedges
          && turnedFields(dug, turned) == dug
          && turnedFields(ownedBy0, turned) == ownedBy0
          && turnedFields(ownedBy1, turned) == ownedBy1;
    }

    int turnedFields(int some, int turned) {
      int found = 0;
      for (int field = 0; field < fields; field++) {
        if ((some >>> field & 1) != 0) {
          int r = rowOf(field);
          found |= 1 << placeTurned(r, field - r * width, height, width, turned);
        }
      }
      return found;
    }

    long turnedEdges(long some, int turned) {
      long found = 0L;
      for (int edge = 0; edge < edges; edge++) {
        if ((some >>> edge & 1L) != 0L) {
          found |= 1L << edgeTurned(edge, turned);
        }
      }
      return found;
    }

    int edgeTurned(int edge, int turned) {
      boolean level = edge < uprights;
      int r = level ? rowOf(edge) : uprightRow(edge);
      int column = level ? edge - r * width : edge - uprights - r * (width + 1);
      boolean levelThen = level == turned < 4;
      int rows = levelThen ? height + 1 : height;
      int columns = levelThen ? width : width + 1;
      return (levelThen ? 0 : uprights) + placeTurned(r, column, rows, columns, turned);
    }

    int placeTurned(int r, int column, int rows, int columns, int turned) {
      int down = turned < 4 ? r : column;
      int across = turned < 4 ? column : r;
      if ((turned & 1) != 0) {
        across = columns - 1 - across;
      }
      if ((turned & 2) != 0) {
        down = rows - 1 - down;
      }
      return down * columns + across;
    }
  }

  /** A SHELF, and room for the ROW it may hold. */
  private static final class Shelf {
    /** NONE, the SORT of the ROW, or FIRST_PLAYER and the number of the PLAYER. */
    int content = NONE;
    int length = 0;
    final long[] elements = new long[ROW_LIMIT];

    boolean bearsRow() {
      return content >= 0 && content < SORTS;
    }

    boolean bearsPlayer() {
      return content >= FIRST_PLAYER;
    }

    void empty() {
      content = NONE;
      length = 0;
    }

    void bear(int player) {
      content = FIRST_PLAYER + player;
      length = 0;
    }

    void layRow(int sort, int n) {
      content = sort;
      length = n;
      for (int i = 0; i < elements.length; i++) {
        elements[i] = 0L;
      }
    }

    boolean reaches(int i) {
      return i >= 0 && i < length && i < elements.length;
    }

    boolean reachesSpan(int i, int n) {
      return i >= 0 && n >= 0 && n <= length && i <= length - n && length <= elements.length;
    }

    long elementAt(int i) {
      return reaches(i) ? elements[i] : 0L;
    }

    void put(int i, long v) {
      if (reaches(i)) {
        elements[i] = lowestBits(v);
      }
    }

    long lowestBits(long v) {
      switch (content) {
        case BYTES:
          return (byte) v;
        case SHORTS:
          return (short) v;
        case INTS:
          return (int) v;
        case LONGS:
          return v;
        case BOOLEANS:
          return truth(v != 0L);
        default:
          return 0L;
      }
    }
  }

  /** THE TAPE, and the token that is being read of it. */
  private static final class Tape {
    private static final int LETTERS = 1;
    private static final int DIGITS = 2;
    private static final int WIDEST_NUMBER = 2;

    final char[] bytes = new char[TAPE_LIMIT];
    int length = 0;
    /** Where the token begins, and the place behind it. */
    int from = 0;
    int upto = 0;

    void append(int letter) {
      if (length >= 0 && length < bytes.length) {
        bytes[length] = (char) letter;
        length++;
      }
    }

    void rewind() {
      from = 0;
      upto = 0;
    }

    int byteAt(int i) {
      return i >= 0 && i < length && i < bytes.length ? bytes[i] : NONE;
    }

    /** What goes on into one token: letters, or digits; nothing else does. */
    int sortAt(int i) {
      int here = byteAt(i);
      if (here >= 'a' && here <= 'z') {
        return LETTERS;
      }
      return here >= '0' && here <= '9' ? DIGITS : NONE;
    }

    /** Goes on to the next token. */
    void step() {
      from = upto;
      while (from < length && byteAt(from) == BLANK) {
        from++;
      }
      int sort = sortAt(from);
      upto = Math.min(from + 1, length);
      while (upto < length && sort != NONE && sortAt(upto) == sort) {
        upto++;
      }
    }

    boolean isAtEnd() {
      return from >= length;
    }

    boolean isSign() {
      return byteAt(from) == SIGN;
    }

    boolean isWord(String word) {
      boolean same = upto - from == word.length();
      for (int i = 0; i < word.length() && same; i++) {
        same = byteAt(from + i) == word.charAt(i);
      }
      return same;
    }

    /** The NUMBER that the token is, if it is one of at most two digits; NONE. */
    int numberHere() {
      if (sortAt(from) != DIGITS || upto - from > WIDEST_NUMBER) {
        return NONE;
      }
      int number = 0;
      for (int i = from; i < upto; i++) {
        number = number * 10 + byteAt(i) - '0';
      }
      return number;
    }
  }
}
