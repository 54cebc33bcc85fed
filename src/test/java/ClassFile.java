import java.io.ByteArrayInputStream;
import java.io.DataInputStream;
import java.io.IOException;
import java.io.InputStream;
import java.nio.ByteBuffer;
import java.util.Map;
import java.util.TreeMap;
import java.util.TreeSet;
import java.util.Set;

/** What the compiler made of one class: which methods it has, and what each of them does. */
final class ClassFile {
  private static final int TABLESWITCH = 170;
  private static final int LOOKUPSWITCH = 171;
  private static final int FIRST_INVOKE = 182;
  private static final int LAST_INVOKE = 185;
  private static final int WIDE = 196;

  /** How long an instruction is, by its number; 0: it depends on what is in it. */
  private static final int[] LENGTHS = lengths();

  /** What a method does: whom it calls ("class.name"), and the numbers of its instructions. */
  static final class Body {
    final Set<String> calls = new TreeSet<>();
    final Set<Integer> instructions = new TreeSet<>();
    boolean catches = false;
  }

  final String name;
  final Map<String, Body> bodies = new TreeMap<>();
  private final Object[] pool;

  ClassFile(Class<?> of) throws IOException {
    name = of.getName();
    byte[] bytes;
    try (InputStream in = of.getResourceAsStream(name.substring(name.lastIndexOf('.') + 1) + ".class")) {
      bytes = in.readAllBytes();
    }
    DataInputStream in = new DataInputStream(new ByteArrayInputStream(bytes));
    in.skipBytes(8);
    pool = pool(in);
    in.skipBytes(6);
    in.skipBytes(2 * in.readUnsignedShort());
    readMembers(in);
    readMembers(in);
  }

  private static int[] lengths() {
    int[] found = new int[256];
    java.util.Arrays.fill(found, 1);
    spread(found, 2, 16, 16, 18, 18, 21, 25, 54, 58, 169, 169, 188, 188);
    spread(found, 3, 17, 17, 19, 20, 132, 132, 153, 168, 178, 184, 187, 187, 189, 189, 192, 193, 198, 199);
    spread(found, 4, 197, 197);
    spread(found, 5, 185, 186, 200, 201);
    spread(found, 0, TABLESWITCH, LOOKUPSWITCH, WIDE, WIDE);
    return found;
  }

  private static void spread(int[] lengths, int length, int... spans) {
    for (int i = 0; i < spans.length; i += 2) {
      java.util.Arrays.fill(lengths, spans[i], spans[i + 1] + 1, length);
    }
  }

  /** Texts as they are; of what points elsewhere, its two (or one) places in the pool. */
  private static Object[] pool(DataInputStream in) throws IOException {
    Object[] found = new Object[in.readUnsignedShort()];
    for (int i = 1; i < found.length; i++) {
      int tag = in.readUnsignedByte();
      switch (tag) {
        case 1 -> found[i] = in.readUTF();
        case 7, 8, 16, 19, 20 -> found[i] = new int[] {in.readUnsignedShort()};
        case 9, 10, 11, 12, 17, 18 -> found[i] = new int[] {in.readUnsignedShort(), in.readUnsignedShort()};
        case 15 -> in.skipBytes(3);
        case 5, 6 -> {
          in.skipBytes(8);
          i++;
        }
        default -> in.skipBytes(4);
      }
    }
    return found;
  }

  private String text(int i) {
    return pool[i] instanceof int[] at ? text(at[0]) : (String) pool[i];
  }

  private String target(int i) {
    int[] at = (int[]) pool[i];
    return text(at[0]).replace('/', '.') + "." + text(at[1]);
  }

  private void readMembers(DataInputStream in) throws IOException {
    for (int left = in.readUnsignedShort(); left > 0; left--) {
      in.skipBytes(2);
      String member = text(in.readUnsignedShort());
      in.skipBytes(2);
      for (int more = in.readUnsignedShort(); more > 0; more--) {
        String what = text(in.readUnsignedShort());
        byte[] bytes = in.readNBytes(in.readInt());
        if (what.equals("Code")) {
          readCode(ByteBuffer.wrap(bytes), bodies.computeIfAbsent(name + "." + member, m -> new Body()));
        }
      }
    }
  }

  private void readCode(ByteBuffer code, Body body) {
    int start = 8;
    int end = start + code.getInt(4);
    for (int at = start; at < end; at += length(code, at, start)) {
      int instruction = code.get(at) & 255;
      body.instructions.add(instruction);
      if (instruction >= FIRST_INVOKE && instruction <= LAST_INVOKE) {
        body.calls.add(target(code.getShort(at + 1) & 0xFFFF));
      }
    }
    body.catches |= code.getShort(end) != 0;
  }

  private static int length(ByteBuffer code, int at, int start) {
    int instruction = code.get(at) & 255;
    int aligned = start + (at - start + 4) / 4 * 4;
    return switch (instruction) {
      case TABLESWITCH -> aligned + 12 + 4 * (code.getInt(aligned + 8) - code.getInt(aligned + 4) + 1) - at;
      case LOOKUPSWITCH -> aligned + 8 + 8 * code.getInt(aligned + 4) - at;
      case WIDE -> (code.get(at + 1) & 255) == 132 ? 6 : 4;
      default -> LENGTHS[instruction];
    };
  }
}
