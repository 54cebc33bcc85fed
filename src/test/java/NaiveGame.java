import java.util.ArrayDeque;
import java.util.ArrayList;
import java.util.Arrays;
import java.util.List;

/**
 * The document once more, as plainly as it can be written and with nothing in common with the
 * program: HEDGES, FIELDS and OWNERS in arrays, every rule by looking at every FIELD. ModelTest
 * holds the program against it.
 */
final class NaiveGame {
  static final int NONE = -1;

  static final class Board {
    int w;
    int h;
    boolean[] hedge;
    boolean[] dug;
    int[] owner;
    int turn;
    int moves;

    Board(int w, int h) {
      this.w = w;
      this.h = h;
      hedge = new boolean[(h + 1) * w + h * (w + 1)];
      dug = new boolean[w * h];
      owner = new int[w * h];
      Arrays.fill(owner, NONE);
    }

    Board copy() {
      Board b = new Board(w, h);
      b.hedge = hedge.clone();
      b.dug = dug.clone();
      b.owner = owner.clone();
      b.turn = turn;
      b.moves = moves;
      return b;
    }

    int level(int r, int c) {
      return r * w + c;
    }

    int upright(int r, int c) {
      return (h + 1) * w + r * (w + 1) + c;
    }

    int[] edgesOf(int f) {
      int r = f / w;
      int c = f % w;
      return new int[] {level(r, c), level(r + 1, c), upright(r, c), upright(r, c + 1)};
    }

    int field(int r, int c) {
      return r < 0 || c < 0 || r >= h || c >= w ? NONE : r * w + c;
    }

    /** Above, below, left, right: in the order of edgesOf. */
    int[] neighbours(int f) {
      int r = f / w;
      int c = f % w;
      return new int[] {field(r - 1, c), field(r + 1, c), field(r, c - 1), field(r, c + 1)};
    }

    int[] fieldsOf(int edge) {
      int[] found = {NONE, NONE};
      for (int f = 0; f < dug.length; f++) {
        int[] e = edgesOf(f);
        if (e[1] == edge || e[3] == edge) {
          found[0] = f;
        }
        if (e[0] == edge || e[2] == edge) {
          found[1] = f;
        }
      }
      return found;
    }

    boolean isRim(int edge) {
      int[] f = fieldsOf(edge);
      return f[0] == NONE || f[1] == NONE;
    }

    boolean isRimField(int f) {
      for (int n : neighbours(f)) {
        if (n == NONE) {
          return true;
        }
      }
      return false;
    }

    int hedgesOf(int f) {
      int n = 0;
      for (int e : edgesOf(f)) {
        if (hedge[e]) {
          n++;
        }
      }
      return n;
    }

    boolean isMove(int move) {
      return move >= 0 && move < hedge.length || move >= 100 && move < 100 + dug.length;
    }

    boolean may(int move) {
      if (!isMove(move)) {
        return false;
      }
      if (move < 100) {
        return !hedge[move];
      }
      return !dug[move - 100] && hedgesOf(move - 100) < 4;
    }

    List<Integer> allMoves() {
      List<Integer> found = new ArrayList<>();
      for (int m = 0; m < 200; m++) {
        if (may(m)) {
          found.add(m);
        }
      }
      return found;
    }

    int make(int move) {
      int shut = 0;
      if (move >= 100) {
        dug[move - 100] = true;
      } else {
        boolean[] before = new boolean[dug.length];
        for (int f = 0; f < dug.length; f++) {
          before[f] = hedgesOf(f) == 4;
        }
        hedge[move] = true;
        for (int f = 0; f < dug.length; f++) {
          if (!before[f] && hedgesOf(f) == 4) {
            owner[f] = turn;
            shut++;
          }
        }
      }
      turn = 1 - turn;
      moves++;
      return shut;
    }

    /** The FIELDS that hang together with one; over hedges only, when told so. */
    boolean[] together(int from, boolean onlyDug, boolean hedgesPart) {
      boolean[] in = new boolean[dug.length];
      ArrayDeque<Integer> open = new ArrayDeque<>();
      in[from] = true;
      open.add(from);
      while (!open.isEmpty()) {
        int f = open.remove();
        int[] n = neighbours(f);
        int[] e = edgesOf(f);
        for (int k = 0; k < 4; k++) {
          boolean goes = n[k] != NONE && !in[n[k]];
          if (goes && !(onlyDug && !dug[n[k]]) && !(hedgesPart && hedge[e[k]])) {
            in[n[k]] = true;
            open.add(n[k]);
          }
        }
      }
      return in;
    }

    boolean drains(boolean[] ditch) {
      for (int f = 0; f < ditch.length; f++) {
        if (ditch[f]) {
          for (int e : edgesOf(f)) {
            if (isRim(e) && !hedge[e]) {
              return true;
            }
          }
        }
      }
      return false;
    }

    boolean[] drained() {
      boolean[] found = new boolean[dug.length];
      for (int f = 0; f < dug.length; f++) {
        found[f] = dug[f] && drains(together(f, true, false));
      }
      return found;
    }

    int colour(int f) {
      boolean[] wet = drained();
      if (wet[f]) {
        return NONE;
      }
      for (int n : neighbours(f)) {
        if (n != NONE && wet[n]) {
          return NONE;
        }
      }
      return owner[f];
    }

    int lanes(int p) {
      int[] colours = new int[dug.length];
      for (int f = 0; f < colours.length; f++) {
        colours[f] = colour(f);
      }
      int n = 0;
      for (int r = 0; r < h; r++) {
        for (int c = 0; c < w; c++) {
          int[][] triples = {
            {field(r, c), field(r, c + 1), field(r, c + 2)},
            {field(r, c), field(r + 1, c), field(r + 2, c)}
          };
          for (int[] t : triples) {
            boolean all = true;
            for (int f : t) {
              all &= f != NONE && colours[f] == p;
            }
            if (all) {
              n++;
            }
          }
        }
      }
      return n;
    }

    int score(int p) {
      int n = lanes(1 - p);
      for (int f = 0; f < dug.length; f++) {
        if (colour(f) == p) {
          n++;
        }
      }
      return n;
    }

    int lead(int p) {
      return score(p) - score(1 - p);
    }

    int chain(int field) {
      Board b = copy();
      int f = field;
      int n = 0;
      while (f != NONE && b.hedgesOf(f) == 3) {
        int[] e = b.edgesOf(f);
        int[] next = b.neighbours(f);
        for (int k = 0; k < 4; k++) {
          if (!b.hedge[e[k]]) {
            b.hedge[e[k]] = true;
            f = next[k];
            break;
          }
        }
        n++;
      }
      return n;
    }

    int shuts(int edge) {
      return copy().make(edge);
    }

    int threes(boolean[] ahead) {
      int n = 0;
      for (int f = 0; f < dug.length; f++) {
        if (hedgesOf(f) == 3 && (ahead == null || !ahead[f])) {
          n++;
        }
      }
      return n;
    }

    int gives(int edge) {
      boolean[] ahead = new boolean[dug.length];
      for (int f = 0; f < dug.length; f++) {
        ahead[f] = hedgesOf(f) == 3;
      }
      Board b = copy();
      b.make(edge);
      return b.threes(ahead);
    }

    boolean isCalm(int edge) {
      Board b = copy();
      b.make(edge);
      return b.threes(null) == 0;
    }

    /** The LEAD of whose turn it is, and the move, by trying everything. */
    int[] best() {
      List<Integer> all = allMoves();
      if (all.isEmpty()) {
        return new int[] {lead(turn), NONE};
      }
      int[] found = null;
      for (int m : all) {
        Board b = copy();
        b.make(m);
        int his = -b.best()[0];
        if (found == null || his > found[0]) {
          found = new int[] {his, m};
        }
      }
      return found;
    }

    /** The board as a grid of signs, so that turning is turning the grid. */
    char[][] grid() {
      char[][] g = new char[2 * h + 1][2 * w + 1];
      for (char[] line : g) {
        Arrays.fill(line, '+');
      }
      for (int f = 0; f < dug.length; f++) {
        int r = 2 * (f / w) + 1;
        int c = 2 * (f % w) + 1;
        g[r][c] = (char) ('a' + (dug[f] ? 3 : 0) + owner[f] + 1);
        int[] e = edgesOf(f);
        g[r - 1][c] = hedge[e[0]] ? '#' : '.';
        g[r + 1][c] = hedge[e[1]] ? '#' : '.';
        g[r][c - 1] = hedge[e[2]] ? '#' : '.';
        g[r][c + 1] = hedge[e[3]] ? '#' : '.';
      }
      return g;
    }

    boolean alike(int turned) {
      char[][] g = grid();
      char[][] t = new char[g.length][g[0].length];
      for (int r = 0; r < g.length; r++) {
        for (int c = 0; c < g[0].length; c++) {
          int rr = turned >= 4 ? c : r;
          int cc = turned >= 4 ? r : c;
          if (turned % 2 == 1) {
            cc = g[0].length - 1 - cc;
          }
          if (turned / 2 % 2 == 1) {
            rr = g.length - 1 - rr;
          }
          t[rr][cc] = g[r][c];
        }
      }
      return Arrays.deepEquals(g, t);
    }
  }

  Board board = new Board(2, 2);
  int seed = 1;
  List<int[]> players = new ArrayList<>();

  Object[] shelf = new Object[8];
  int[] sort = new int[8];
  StringBuilder tape = new StringBuilder();
  int[] refusals = new int[5];

  Board keptBoard;
  int keptSeed;
  List<int[]> keptPlayers;

  int no(int why) {
    refusals[-2 - why]++;
    return why;
  }

  int noLead(int why) {
    return -1000 + no(why);
  }

  static int one(boolean is) {
    return is ? 1 : 0;
  }

  static int bits(boolean[] in) {
    int n = 0;
    for (int f = 0; f < in.length; f++) {
      if (in[f]) {
        n += 1 << f;
      }
    }
    return n;
  }

  boolean badField(int f) {
    return f < 0 || f >= board.dug.length;
  }

  boolean badEdge(int e) {
    return e < 0 || e >= board.hedge.length;
  }

  boolean badPlayer(int p) {
    return p < 0 || p >= players.size();
  }

  static boolean badSeat(int p) {
    return p != 0 && p != 1;
  }

  static boolean badShelf(int s) {
    return s < 0 || s > 7;
  }

  int row(int s, int sort, int n) {
    if (badShelf(s) || sort < 0 || sort > 4 || n < 0 || n > 40) {
      return no(-2);
    }
    shelf[s] = new long[n];
    this.sort[s] = sort;
    return 1;
  }

  int set(int s, int i, long v) {
    if (badShelf(s)) {
      return no(-2);
    }
    if (shelf[s] instanceof Integer) {
      return no(-3);
    }
    if (shelf[s] == null) {
      return no(-4);
    }
    long[] row = (long[]) shelf[s];
    if (i < 0 || i >= row.length) {
      return no(-2);
    }
    row[i] =
        switch (sort[s]) {
          case 0 -> v << 56 >> 56;
          case 1 -> v << 48 >> 48;
          case 2 -> v << 32 >> 32;
          case 3 -> v;
          default -> v == 0 ? 0 : 1;
        };
    return 1;
  }

  int copy(int p, int q, int i, int j, int n) {
    if (badShelf(p) || badShelf(q)) {
      return no(-2);
    }
    if (shelf[p] instanceof Integer || shelf[q] instanceof Integer) {
      return no(-3);
    }
    if (shelf[p] != null && shelf[q] != null && sort[p] != sort[q]) {
      return no(-3);
    }
    if (shelf[p] == null || shelf[q] == null) {
      return no(-4);
    }
    long[] from = ((long[]) shelf[p]).clone();
    long[] to = (long[]) shelf[q];
    if (i < 0 || j < 0 || n < 0 || (long) i + n > from.length || (long) j + n > to.length) {
      return no(-2);
    }
    for (int k = 0; k < n; k++) {
      to[j + k] = from[i + k];
    }
    return n;
  }

  long element(int s, int i) {
    if (badShelf(s) || !(shelf[s] instanceof long[] row)) {
      return 0;
    }
    return i < 0 || i >= row.length ? 0 : row[i];
  }

  int holds(int s) {
    if (badShelf(s) || shelf[s] == null) {
      return NONE;
    }
    return shelf[s] instanceof Integer p ? 10 + p : sort[s];
  }

  int show(int s, int player) {
    if (badShelf(s) || player != NONE && badPlayer(player)) {
      return no(-2);
    }
    shelf[s] = player == NONE ? null : (Object) player;
    return 1;
  }

  int says(int s, int kind) {
    if (badShelf(s) || kind < 0 || kind > 5) {
      return no(-2);
    }
    if (shelf[s] == null) {
      return no(-4);
    }
    if (!(shelf[s] instanceof Integer p)) {
      return no(-3);
    }
    int own = players.get(p)[0];
    boolean under = kind == 0 || kind == own || kind == 1 && own == 3 || kind == 2 && own == 4;
    if (!under) {
      return no(-3);
    }
    if (kind == 0) {
      return players.get(p)[1];
    }
    return kind == 5 ? board.allMoves().size() : choose(p, board, new int[] {seed});
  }

  int size(int w, int h) {
    if (w < 1 || w > 4 || h < 1 || h > 4) {
      return no(-2);
    }
    board = new Board(w, h);
    return board.hedge.length;
  }

  int player(int kind, int a) {
    if (kind < 0 || kind > 5 || a < 0 || a > 9) {
      return no(-2);
    }
    if (players.size() == 6) {
      return no(-6);
    }
    players.add(new int[] {kind, a});
    return players.size() - 1;
  }

  int turn(int p) {
    if (badSeat(p)) {
      return no(-2);
    }
    int was = board.turn;
    board.turn = p;
    return was;
  }

  int feed(int letter) {
    if (letter < 0 || letter > 255) {
      return no(-2);
    }
    if (tape.length() == 250) {
      return no(-6);
    }
    tape.append((char) letter);
    return tape.length();
  }

  int wipe() {
    int was = tape.length();
    tape.setLength(0);
    return was;
  }

  record Token(String text, int place) {
    boolean isEnd() {
      return text.isEmpty();
    }

    int number(int least, int most) {
      if (!text.matches("[0-9]{1,2}")) {
        return NONE;
      }
      int n = Integer.parseInt(text);
      return n < least || n > most ? NONE : n;
    }
  }

  List<Token> tokens(String text) {
    List<Token> found = new ArrayList<>();
    var m = java.util.regex.Pattern.compile("[a-z]+|[0-9]+|[^ ]", java.util.regex.Pattern.DOTALL).matcher(text);
    while (m.find()) {
      found.add(new Token(m.group(), m.start()));
    }
    for (int i = 0; i < 5; i++) {
      found.add(new Token("", text.length()));
    }
    return found;
  }

  int board() {
    List<Token> t = tokens(tape.toString());
    tape.setLength(0);
    Board b = board.copy();
    List<int[]> crew = new ArrayList<>(players);
    int at = 0;
    int count = 0;
    while (true) {
      Token word = t.get(at++);
      Token fault = null;
      if (word.text.equals("size")) {
        int w = t.get(at).number(1, 4);
        int h = w == NONE ? NONE : t.get(at + 1).number(1, 4);
        if (w == NONE || h == NONE) {
          fault = t.get(w == NONE ? at : at + 1);
        } else {
          b = new Board(w, h);
        }
        at += 2;
      } else if (word.text.equals("hedge") || word.text.equals("dig")) {
        int base = word.text.equals("dig") ? 100 : 0;
        int n = t.get(at).number(0, 99);
        if (n == NONE || !b.may(base + n)) {
          fault = t.get(at);
        } else {
          b.make(base + n);
        }
        at++;
      } else if (word.text.equals("turn")) {
        int p = t.get(at).number(0, 1);
        if (p == NONE) {
          fault = t.get(at);
        } else {
          b.turn = p;
        }
        at++;
      } else if (word.text.equals("player") && crew.size() < 6) {
        int k = t.get(at).number(0, 5);
        int a = k == NONE ? NONE : t.get(at + 1).number(0, 9);
        if (k == NONE || a == NONE) {
          fault = t.get(k == NONE ? at : at + 1);
        } else {
          crew.add(new int[] {k, a});
        }
        at += 2;
      } else {
        fault = word;
      }
      if (fault == null) {
        count++;
        Token next = t.get(at++);
        if (next.isEnd()) {
          board = b;
          players = crew;
          return count;
        }
        if (!next.text.equals(";")) {
          fault = next;
        }
      }
      if (fault != null) {
        no(-2);
        return -20 - fault.place;
      }
    }
  }

  int fieldOf(int f, int what) {
    if (badField(f) || what < 0 || what > 8) {
      return no(-2);
    }
    return switch (what) {
      case 0 -> board.hedgesOf(f);
      case 1 -> one(board.dug[f]);
      case 2 -> board.owner[f];
      case 3 -> board.colour(f);
      case 8 -> one(board.isRimField(f));
      default -> board.edgesOf(f)[what - 4];
    };
  }

  int edgeOf(int e, int what) {
    if (badEdge(e) || what < 0 || what > 2) {
      return no(-2);
    }
    return what == 0 ? one(board.hedge[e]) : board.fieldsOf(e)[what - 1];
  }

  int playerOf(int p, int what) {
    return badPlayer(p) || what < 0 || what > 1 ? no(-2) : players.get(p)[what];
  }

  int may(int move) {
    return board.isMove(move) ? one(board.may(move)) : no(-2);
  }

  int moves(int i) {
    List<Integer> all = board.allMoves();
    if (i < -1) {
      return no(-2);
    }
    if (i == NONE) {
      return all.size();
    }
    return i < all.size() ? all.get(i) : no(-5);
  }

  int score(int p) {
    return badSeat(p) ? no(-2) : board.score(p);
  }

  int lead(int p) {
    return badSeat(p) ? noLead(-2) : board.lead(p);
  }

  int lanes(int p) {
    return badSeat(p) ? no(-2) : board.lanes(p);
  }

  int ditch(int f) {
    if (badField(f)) {
      return no(-2);
    }
    return board.dug[f] ? bits(board.together(f, true, false)) : no(-5);
  }

  int drained() {
    return bits(board.drained());
  }

  interface Ask {
    boolean of(int f);
  }

  int fieldsWhere(Ask ask) {
    boolean[] in = new boolean[board.dug.length];
    for (int f = 0; f < in.length; f++) {
      in[f] = ask.of(f);
    }
    return bits(in);
  }

  int edgesWhere(Ask ask) {
    int n = 0;
    for (int e = 0; e < board.hedge.length; e++) {
      n += one(ask.of(e));
    }
    return n;
  }

  int thirds() {
    return fieldsWhere(f -> board.hedgesOf(f) == 3);
  }

  int chain(int f) {
    return badField(f) ? no(-2) : board.chain(f);
  }

  int longest() {
    int found = 0;
    for (int f = 1; f < board.dug.length; f++) {
      if (board.chain(f) > board.chain(found)) {
        found = f;
      }
    }
    return found;
  }

  int shuts(int e) {
    if (badEdge(e)) {
      return no(-2);
    }
    return board.hedge[e] ? no(-5) : board.shuts(e);
  }

  int calm() {
    return edgesWhere(e -> !board.hedge[e] && board.isCalm(e));
  }

  int part(int f) {
    return badField(f) ? no(-2) : bits(board.together(f, false, true));
  }

  int parts() {
    java.util.TreeSet<Integer> found = new java.util.TreeSet<>();
    for (int f = 0; f < board.dug.length; f++) {
      found.add(bits(board.together(f, false, true)));
    }
    return found.size();
  }

  int ditches() {
    java.util.TreeSet<Integer> found = new java.util.TreeSet<>();
    for (int f = 0; f < board.dug.length; f++) {
      if (board.dug[f]) {
        found.add(bits(board.together(f, true, false)));
      }
    }
    return found.size();
  }

  int owned(int p) {
    return badSeat(p) ? no(-2) : fieldsWhere(f -> board.owner[f] == p);
  }

  int coloured(int p) {
    return badSeat(p) ? no(-2) : fieldsWhere(f -> board.colour(f) == p);
  }

  int gives(int e) {
    if (badEdge(e)) {
      return no(-2);
    }
    return board.hedge[e] ? no(-5) : board.gives(e);
  }

  int gaps() {
    return edgesWhere(e -> board.isRim(e) && !board.hedge[e]);
  }

  int rim() {
    return fieldsWhere(f -> board.isRimField(f));
  }

  int leader() {
    int a = board.score(0);
    int b = board.score(1);
    return a == b ? NONE : a > b ? 0 : 1;
  }

  int bare() {
    return fieldsWhere(f -> board.hedgesOf(f) == 0);
  }

  int soft() {
    return fieldsWhere(f -> board.may(100 + f));
  }

  int after(int move) {
    if (!board.isMove(move)) {
      return noLead(-2);
    }
    if (!board.may(move) || board.allMoves().size() > 7) {
      return noLead(-5);
    }
    Board b = board.copy();
    b.make(move);
    return -b.best()[0];
  }

  int best() {
    return board.allMoves().size() > 7 ? no(-5) : board.best()[1];
  }

  int worth() {
    return board.allMoves().size() > 7 ? noLead(-5) : board.best()[0];
  }

  static int draw(int[] seed, int n) {
    long next = (long) seed[0] * 1103515245L + 12345L;
    seed[0] = (int) next;
    return (int) ((next & 0xFFFFFFFFL) >> 16) % n;
  }

  int choose(int player, Board b, int[] seed) {
    List<Integer> all = b.allMoves();
    if (all.isEmpty()) {
      return NONE;
    }
    int kind = players.get(player)[0];
    int a = players.get(player)[1];
    int dug = 0;
    for (boolean d : b.dug) {
      dug += one(d);
    }
    if (kind == 1 || kind == 3) {
      for (int m : all) {
        if (m < 100 && b.shuts(m) > 0) {
          return m;
        }
      }
    }
    if (kind == 3) {
      for (int m : all) {
        if (m < 100 && b.isCalm(m)) {
          return m;
        }
      }
    }
    if ((kind == 2 || kind == 4) && dug < a) {
      for (int m : all) {
        if (m >= 100 && (kind == 2 || b.isRimField(m - 100))) {
          return m;
        }
      }
    }
    return kind == 5 ? all.get(draw(seed, all.size())) : all.get(0);
  }

  int choice(int p) {
    return badPlayer(p) ? no(-2) : choose(p, board, new int[] {seed});
  }

  /** MOVES made, LEAD of 0, first MOVE. */
  int[] play(int first, int second) {
    Board b = board.copy();
    int[] s = {seed};
    int[] told = {0, 0, NONE};
    while (true) {
      int m = choose(told[0] % 2 == 0 ? first : second, b, s);
      if (m == NONE) {
        told[1] = b.lead(0);
        return told;
      }
      if (told[0] == 0) {
        told[2] = m;
      }
      b.make(m);
      told[0]++;
    }
  }

  int played(int p, int q, int what) {
    return badPlayer(p) || badPlayer(q) || what < 0 || what > 2 ? noLead(-2) : play(p, q)[what];
  }

  int sumOf(int p) {
    int sum = 0;
    for (int q = 0; q < players.size(); q++) {
      if (q != p) {
        sum += board.turn == 0 ? play(p, q)[1] : -play(p, q)[1];
        sum += board.turn == 0 ? -play(q, p)[1] : play(q, p)[1];
      }
    }
    return sum;
  }

  int wins(int p) {
    return badPlayer(p) ? noLead(-2) : sumOf(p);
  }

  int champion() {
    if (players.isEmpty()) {
      return no(-5);
    }
    int found = 0;
    for (int p = 1; p < players.size(); p++) {
      if (sumOf(p) > sumOf(found)) {
        found = p;
      }
    }
    return found;
  }

  int likenesses() {
    int n = 0;
    for (int t = 0; t < (board.w == board.h ? 8 : 4); t++) {
      n += one(board.alike(t));
    }
    return n;
  }

  int alike(int t) {
    boolean bad = t < 0 || t > 7 || t > 3 && board.w != board.h;
    return bad ? no(-2) : one(board.alike(t));
  }

  int toldTrouble(int s, int n) {
    if (badShelf(s) || n < 0 || n > 40) {
      return -2;
    }
    if (shelf[s] instanceof Integer) {
      return -3;
    }
    if (shelf[s] == null) {
      return -4;
    }
    return ((long[]) shelf[s]).length < n ? -2 : 0;
  }

  int wrong(Board b, int s, int n) {
    long[] row = (long[]) shelf[s];
    for (int i = 0; i < n; i++) {
      if (row[i] < 0 || row[i] > 1000 || !b.may((int) row[i])) {
        return i;
      }
      b.make((int) row[i]);
    }
    return NONE;
  }

  int judge(int s, int n) {
    int trouble = toldTrouble(s, n);
    return trouble != 0 ? no(trouble) : wrong(board.copy(), s, n);
  }

  int behind(int s, int n) {
    int trouble = toldTrouble(s, n);
    if (trouble != 0) {
      return noLead(trouble);
    }
    Board b = board.copy();
    return wrong(b, s, n) != NONE ? noLead(-5) : b.lead(0);
  }

  int done(int s, int n) {
    int trouble = toldTrouble(s, n);
    if (trouble != 0) {
      return no(trouble);
    }
    Board b = board.copy();
    if (wrong(b, s, n) != NONE) {
      return no(-5);
    }
    board = b;
    return b.moves;
  }

  int move(int m) {
    if (!board.isMove(m)) {
      return no(-2);
    }
    return board.may(m) ? board.make(m) : no(-5);
  }

  int goes(int p, int n) {
    if (badPlayer(p) || n < 1 || n > 40) {
      return no(-2);
    }
    int[] s = {seed};
    int made = 0;
    while (made < n && !board.allMoves().isEmpty()) {
      board.make(choose(p, board, s));
      made++;
    }
    seed = s[0];
    return made;
  }

  int games(int n) {
    if (n < 1 || n > 20) {
      return no(-2);
    }
    int[] s = {seed};
    int won = 0;
    for (int k = 0; k < n; k++) {
      Board b = new Board(board.w, board.h);
      List<Integer> all = b.allMoves();
      while (!all.isEmpty()) {
        b.make(all.get(draw(s, all.size())));
        all = b.allMoves();
      }
      won += one(b.score(0) > b.score(1));
    }
    seed = s[0];
    return won;
  }

  int seed(int v) {
    int was = seed;
    seed = v;
    return was;
  }

  int image() {
    keptBoard = board.copy();
    keptSeed = seed;
    keptPlayers = new ArrayList<>(players);
    return 1;
  }

  int back() {
    if (keptBoard == null) {
      return no(-5);
    }
    board = keptBoard.copy();
    seed = keptSeed;
    players = new ArrayList<>(keptPlayers);
    for (int s = 0; s < 8; s++) {
      if (shelf[s] instanceof Integer p && p >= players.size()) {
        shelf[s] = null;
      }
    }
    return 1;
  }

  int status(int what) {
    int hedges = edgesWhere(e -> board.hedge[e]);
    int shelves = 0;
    for (Object o : shelf) {
      shelves += one(o != null);
    }
    return switch (what) {
      case 0 -> board.w;
      case 1 -> board.h;
      case 2 -> hedges;
      case 3 -> Integer.bitCount(fieldsWhere(f -> board.dug[f]));
      case 4 -> Integer.bitCount(fieldsWhere(f -> board.hedgesOf(f) == 4));
      case 5 -> board.turn;
      case 6 -> board.moves;
      case 7 -> players.size();
      case 8 -> tape.length();
      case 9 -> seed;
      case 10 -> shelves;
      case 11 -> board.hedge.length;
      case 12, 13, 14, 15, 16 -> refusals[what - 12];
      default -> NONE;
    };
  }
}
