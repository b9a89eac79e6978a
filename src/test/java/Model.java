import java.security.GeneralSecurityException;
import java.security.MessageDigest;
import java.util.ArrayList;
import java.util.Arrays;
import java.util.List;
import javax.crypto.Mac;
import javax.crypto.spec.SecretKeySpec;

/** The document told once more, plainly and with the library's own hashes, to hold the class against. */
final class Model {
    /** A record as it stands on a disk; whole is false for what is none. */
    record Found(boolean whole, int begin, int kind, byte[] bytes, byte[] tag) {
        int end() {
            return begin + 10 + bytes.length;
        }

        int passedOver() {
            return kind == 3 ? (bytes[0] & 255) * 256 + (bytes[1] & 255) : 0;
        }
    }

    record Good(int kind, int index, byte[] bytes) {
    }

    byte[] disk = new byte[0];
    byte[] key = new byte[16];
    byte[] lastTag = new byte[8];
    byte[] buffer = new byte[0];
    int synced;
    int index;
    int crashes;
    boolean up = true;

    boolean verified;
    int badBegin;
    int passedOver;
    List<Good> good = new ArrayList<>();

    static byte[] keyOf(int a, int b, int c, int d) {
        return java.nio.ByteBuffer.allocate(16).putInt(a).putInt(b).putInt(c).putInt(d).array();
    }

    static byte[] nextKey(byte[] key) {
        try {
            MessageDigest hash = MessageDigest.getInstance("SHA-256");
            hash.update((byte) 75);
            return Arrays.copyOf(hash.digest(key), 16);
        } catch (GeneralSecurityException e) {
            throw new AssertionError(e);
        }
    }

    static byte[] tagOf(byte[] key, int index, int kind, byte[] bytes, byte[] before) {
        try {
            Mac mac = Mac.getInstance("HmacSHA256");
            mac.init(new SecretKeySpec(key, "HmacSHA256"));
            mac.update(java.nio.ByteBuffer.allocate(4).putInt(index).array());
            mac.update((byte) kind);
            mac.update((byte) bytes.length);
            mac.update(bytes);
            mac.update(before);
            return Arrays.copyOf(mac.doFinal(), 8);
        } catch (GeneralSecurityException e) {
            throw new AssertionError(e);
        }
    }

    static Found find(byte[] disk, int at) {
        Found none = new Found(false, at, 0, new byte[0], new byte[8]);
        if (disk.length - at < 2) {
            return none;
        }
        int kind = disk[at];
        int length = disk[at + 1] & 255;
        boolean fits = switch (kind) {
            case 1 -> length <= 40;
            case 2 -> length == 0;
            case 3 -> length == 2;
            default -> false;
        };
        if (!fits || disk.length - at < length + 10) {
            return none;
        }
        int tagBegin = at + 2 + length;
        return new Found(true, at, kind, Arrays.copyOfRange(disk, at + 2, tagBegin),
            Arrays.copyOfRange(disk, tagBegin, tagBegin + 8));
    }

    static byte[] join(byte[] a, byte[] b) {
        byte[] all = Arrays.copyOf(a, a.length + b.length);
        System.arraycopy(b, 0, all, a.length, b.length);
        return all;
    }

    void begin(int a, int b, int c, int d) {
        disk = new byte[0];
        key = keyOf(a, b, c, d);
        lastTag = new byte[8];
        synced = 0;
        index = 0;
        crashes = 0;
        up = true;
        verified = false;
        good = new ArrayList<>();
    }

    int feed(int many, int a, int b, int c, int d) {
        if (many < 0 || many > 16) {
            throw new IllegalArgumentException();
        }
        if (buffer.length + many > 40) {
            throw new IllegalStateException();
        }
        buffer = join(buffer, Arrays.copyOf(keyOf(a, b, c, d), many));
        return buffer.length;
    }

    int erase() {
        int had = buffer.length;
        buffer = new byte[0];
        return had;
    }

    int append() {
        needUp(true);
        return write(1, buffer);
    }

    int seal() {
        needUp(true);
        return write(2, new byte[0]);
    }

    private void needUp(boolean wanted) {
        if (up != wanted) {
            throw new IllegalStateException();
        }
    }

    private int write(int kind, byte[] bytes) {
        if (disk.length + 10 + bytes.length > 1200) {
            return -2;
        }
        lastTag = tagOf(key, index, kind, bytes, lastTag);
        disk = join(disk, join(join(new byte[] {(byte) kind, (byte) bytes.length}, bytes), lastTag));
        key = nextKey(key);
        return index++;
    }

    int sync() {
        needUp(true);
        synced = disk.length;
        return synced;
    }

    int crash(int keep) {
        if (keep < 0) {
            throw new IllegalArgumentException();
        }
        int left = (int) Math.min(disk.length, (long) synced + keep);
        int lost = disk.length - left;
        disk = Arrays.copyOf(disk, left);
        up = false;
        crashes++;
        return lost;
    }

    int recover() {
        needUp(false);
        int end = 0;
        int next = 0;
        byte[] tag = new byte[8];
        for (Found f = find(disk, 0); f.whole(); f = find(disk, end)) {
            end = f.end();
            next += f.passedOver() + 1;
            tag = f.tag();
        }
        int gap = next < index ? index - next : 0;
        if (gap > 0 && end + 12 > 1200) {
            return -2;
        }
        disk = Arrays.copyOf(disk, end);
        synced = end;
        lastTag = tag;
        up = true;
        if (gap > 0) {
            write(3, new byte[] {(byte) (gap / 256), (byte) gap});
        }
        return gap;
    }

    int verify(int a, int b, int c, int d) {
        verified = true;
        good = new ArrayList<>();
        passedOver = 0;
        badBegin = -1;
        byte[] at = keyOf(a, b, c, d);
        byte[] before = new byte[8];
        int next = 0;
        for (int place = 0; place < disk.length;) {
            Found f = find(disk, place);
            boolean bad = !f.whole() || f.kind() == 3 && (f.passedOver() == 0 || f.passedOver() > 1000);
            if (!bad) {
                for (int k = 0; k < f.passedOver(); k++) {
                    at = nextKey(at);
                }
                next += f.passedOver();
                bad = !Arrays.equals(f.tag(), tagOf(at, next, f.kind(), f.bytes(), before));
            }
            if (bad) {
                badBegin = place;
                return -3;
            }
            good.add(new Good(f.kind(), next, f.bytes()));
            passedOver += f.passedOver();
            before = f.tag();
            at = nextKey(at);
            next++;
            place = f.end();
        }
        return good.size();
    }

    int told(int what) {
        if (what < 0 || what > 4) {
            throw new IllegalArgumentException();
        }
        if (!verified) {
            return -1;
        }
        return switch (what) {
            case 0 -> badBegin < 0 ? -1 : good.size();
            case 1 -> badBegin;
            case 2 -> good.size();
            case 3 -> !good.isEmpty() && good.get(good.size() - 1).kind() == 2 ? 1 : 0;
            default -> passedOver;
        };
    }

    int record(int record, int what) {
        if (what < 0 || what > 42) {
            throw new IllegalArgumentException();
        }
        if (record < 0 || record >= good.size()) {
            return -1;
        }
        Good g = good.get(record);
        return switch (what) {
            case 0 -> g.kind();
            case 1 -> g.index();
            case 2 -> g.bytes().length;
            default -> what - 3 < g.bytes().length ? g.bytes()[what - 3] & 255 : -1;
        };
    }

    int bend(int place, int bit) {
        if (place < 0 || place >= disk.length) {
            throw new IndexOutOfBoundsException();
        }
        if (bit < 0 || bit > 7) {
            throw new IllegalArgumentException();
        }
        disk[place] ^= (byte) (1 << bit);
        return disk[place] & 255;
    }

    int octet(int k) {
        return k < 0 || k >= disk.length ? -1 : disk[k] & 255;
    }

    int key(int k) {
        if (k < 0 || k > 15) {
            throw new IllegalArgumentException();
        }
        return key[k] & 255;
    }

    int count(int what) {
        return switch (what) {
            case 0 -> disk.length;
            case 1 -> synced;
            case 2 -> index;
            case 3 -> up ? 1 : 0;
            case 4 -> crashes;
            case 5 -> buffer.length;
            default -> throw new IllegalArgumentException();
        };
    }
}
