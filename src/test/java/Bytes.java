import java.io.ByteArrayOutputStream;

/** Bytes being written, numbers with their highest byte first. */
final class Bytes {
    private final ByteArrayOutputStream out = new ByteArrayOutputStream();

    Bytes u8(int... values) {
        for (int value : values) {
            out.write(value);
        }
        return this;
    }

    Bytes u16(int... values) {
        for (int value : values) {
            u8(value >> 8, value);
        }
        return this;
    }

    Bytes u32(long... values) {
        for (long value : values) {
            u16((int) (value >> 16), (int) value);
        }
        return this;
    }

    Bytes all(byte[] bytes) {
        out.write(bytes, 0, bytes.length);
        return this;
    }

    Bytes zeros(int many) {
        return all(new byte[many]);
    }

    int size() {
        return out.size();
    }

    byte[] done() {
        return out.toByteArray();
    }
}
