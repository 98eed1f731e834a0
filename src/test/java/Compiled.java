import java.io.DataInputStream;
import java.io.IOException;
import java.io.InputStream;
import java.nio.ByteBuffer;
import java.util.ArrayList;
import java.util.List;

/** The methods of a class as the compiler wrote them: read from its file, so that no other tool is needed. */
final class Compiled {
  static final int DIVIDES_INTS = 108;
  static final int DIVIDES_LONGS = 109;
  static final int RESTS_OF_INTS = 112;
  static final int RESTS_OF_LONGS = 113;
  static final int CALLS_FIRST = 182;
  static final int CALLS_LAST = 184;
  static final int MAKES = 187;
  static final int MAKES_NUMBERS = 188;
  static final int MAKES_REFERENCES = 189;
  static final int THROWS = 191;
  static final int MAKES_MANY = 197;
  private static final int TABLE_SWITCH = 170;
  private static final int LOOKUP_SWITCH = 171;
  private static final int WIDE = 196;

  static final class Code {
    String name;
    int lines;
    int handlers;
    /** What it does, one behind another. */
    final List<Integer> deeds = new ArrayList<>();
    /** Whom it calls or makes, a deed each; "" for the others. */
    final List<String> whom = new ArrayList<>();
  }

  final List<Code> codes = new ArrayList<>();
  private final DataInputStream in;
  private Object[] pool;

  private Compiled(InputStream stream) {
    in = new DataInputStream(stream);
  }

  static List<Code> of(Class<?> type) throws IOException {
    String file = type.getName().replace('.', '/') + ".class";
    try (InputStream stream = type.getClassLoader().getResourceAsStream(file)) {
      Compiled compiled = new Compiled(stream);
      compiled.read();
      return compiled.codes;
    }
  }

  private void read() throws IOException {
    in.readInt();
    in.readInt();
    readPool();
    in.readUnsignedShort();
    String owner = name(in.readUnsignedShort());
    in.readUnsignedShort();
    in.skipBytes(2 * in.readUnsignedShort());
    int fields = in.readUnsignedShort();
    for (int i = 0; i < fields; i++) {
      in.skipBytes(6);
      skipAttributes();
    }
    int methods = in.readUnsignedShort();
    for (int i = 0; i < methods; i++) {
      in.readUnsignedShort();
      String method = owner + "." + pool[in.readUnsignedShort()] + pool[in.readUnsignedShort()];
      readMethod(method);
    }
  }

  private void readPool() throws IOException {
    pool = new Object[in.readUnsignedShort()];
    for (int i = 1; i < pool.length; i++) {
      int tag = in.readUnsignedByte();
      switch (tag) {
        case 1: pool[i] = in.readUTF(); break;
        case 3: case 4: in.readInt(); break;
        case 5: case 6: in.readLong(); i++; break;
        case 15: in.skipBytes(3); break;
        case 9: case 10: case 11: case 12: case 17: case 18:
          pool[i] = new int[] {in.readUnsignedShort(), in.readUnsignedShort()};
          break;
        default: pool[i] = new int[] {in.readUnsignedShort()};
      }
    }
  }

  private String name(int i) {
    return (String) pool[((int[]) pool[i])[0]];
  }

  private String member(int i) {
    int[] told = (int[]) pool[i];
    int[] nameAndType = (int[]) pool[told[1]];
    return name(told[0]) + "." + pool[nameAndType[0]] + pool[nameAndType[1]];
  }

  private void skipAttributes() throws IOException {
    int attributes = in.readUnsignedShort();
    for (int i = 0; i < attributes; i++) {
      in.readUnsignedShort();
      in.skipBytes(in.readInt());
    }
  }

  private void readMethod(String method) throws IOException {
    int attributes = in.readUnsignedShort();
    for (int i = 0; i < attributes; i++) {
      String attribute = (String) pool[in.readUnsignedShort()];
      int length = in.readInt();
      if (attribute.equals("Code")) {
        readCode(method);
      } else {
        in.skipBytes(length);
      }
    }
  }

  private void readCode(String method) throws IOException {
    Code code = new Code();
    code.name = method;
    in.readInt();
    byte[] bytes = new byte[in.readInt()];
    in.readFully(bytes);
    code.handlers = in.readUnsignedShort();
    in.skipBytes(8 * code.handlers);
    int attributes = in.readUnsignedShort();
    for (int i = 0; i < attributes; i++) {
      String attribute = (String) pool[in.readUnsignedShort()];
      int length = in.readInt();
      if (attribute.equals("LineNumberTable")) {
        code.lines = readLines();
      } else {
        in.skipBytes(length);
      }
    }
    readDeeds(code, ByteBuffer.wrap(bytes));
    codes.add(code);
  }

  private int readLines() throws IOException {
    int first = Integer.MAX_VALUE;
    int last = 0;
    int lines = in.readUnsignedShort();
    for (int i = 0; i < lines; i++) {
      in.readUnsignedShort();
      int line = in.readUnsignedShort();
      first = Math.min(first, line);
      last = Math.max(last, line);
    }
    return last - first + 1;
  }

  private void readDeeds(Code code, ByteBuffer bytes) {
    for (int at = 0; at < bytes.limit(); at += length(bytes, at)) {
      int deed = bytes.get(at) & 255;
      boolean calls = deed >= CALLS_FIRST && deed <= CALLS_LAST;
      code.deeds.add(deed);
      code.whom.add(calls ? member(bytes.getShort(at + 1) & 65535) : deed == MAKES ? name(bytes.getShort(at + 1) & 65535) : "");
    }
  }

  private static int length(ByteBuffer bytes, int at) {
    int deed = bytes.get(at) & 255;
    int aligned = (at + 4) / 4 * 4;
    switch (deed) {
      case TABLE_SWITCH: return aligned - at + 12 + 4 * (bytes.getInt(aligned + 8) - bytes.getInt(aligned + 4) + 1);
      case LOOKUP_SWITCH: return aligned - at + 8 + 8 * bytes.getInt(aligned + 4);
      case WIDE: return (bytes.get(at + 1) & 255) == 132 ? 6 : 4;
      case 16: case 18: case 169: case MAKES_NUMBERS: return 2;
      case 17: case 19: case 20: case 132: case MAKES: case MAKES_REFERENCES: case 192: case 193: case 198: case 199: return 3;
      case MAKES_MANY: return 4;
      case 185: case 186: case 200: case 201: return 5;
      default:
        boolean local = deed >= 21 && deed <= 25 || deed >= 54 && deed <= 58;
        boolean jumpsOrNames = deed >= 153 && deed <= 168 || deed >= 178 && deed <= CALLS_LAST;
        return local ? 2 : jumpsOrNames ? 3 : 1;
    }
  }
}
