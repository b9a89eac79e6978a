import java.util.Arrays;

/** What the tests of single promises and sentences share: logs under one key, and the bytes that are due on them. */
abstract class Logs {
    static final int LOW = Integer.MIN_VALUE;
    static final int HIGH = Integer.MAX_VALUE;

    /** A log with this key 0 and an empty buffer. */
    static ForwardLog fresh() {
        ForwardLog log = new ForwardLog();
        log.begin(1, -2, 3, -4);
        return log;
    }

    static byte[] keyAt(int index) {
        byte[] key = Model.keyOf(1, -2, 3, -4);
        for (int k = 0; k < index; k++) {
            key = Model.nextKey(key);
        }
        return key;
    }

    static int verifyOf(ForwardLog log) {
        return log.verify(1, -2, 3, -4);
    }

    /** The buffer has then just so many bytes, first, first + 1 and on. */
    static void fill(ForwardLog log, int many, int first) {
        log.erase();
        for (int done = 0; done < many; done += 16) {
            int from = first + done;
            log.feed(Math.min(16, many - done), four(from), four(from + 4), four(from + 8), four(from + 12));
        }
    }

    private static int four(int first) {
        return first << 24 | (first + 1 & 255) << 16 | (first + 2 & 255) << 8 | first + 3 & 255;
    }

    static int entry(ForwardLog log, int many, int first) {
        fill(log, many, first);
        return log.append();
    }

    static void seals(ForwardLog log, int many) {
        for (int k = 0; k < many; k++) {
            log.seal();
        }
    }

    /** Brings a fresh log's index to this one, with nothing left on the disk and the writer down. */
    static void lose(ForwardLog log, int index) {
        int room = 120;
        for (int next = 0; next < index; next++) {
            int many = Math.min(index - next, room);
            seals(log, many);
            log.crash(0);
            next += many;
            if (next < index) {
                log.recover();
                room = 118;
            }
        }
        if (log.count(3) == 1) {
            log.crash(0);
        }
    }

    /** Writes records that take just so many bytes, ten at least, in few calls. */
    static void write(ForwardLog log, int size) {
        int left = size;
        fill(log, 40, 0);
        for (; left > 60; left -= 50) {
            log.append();
        }
        if (left > 50) {
            log.seal();
            left -= 10;
        }
        entry(log, left - 10, 0);
    }

    static byte[] counting(int many, int first) {
        byte[] bytes = new byte[many];
        for (int k = 0; k < many; k++) {
            bytes[k] = (byte) (first + k);
        }
        return bytes;
    }

    static byte[] diskOf(ForwardLog log) {
        return diskFrom(log, 0);
    }

    static byte[] diskFrom(ForwardLog log, int place) {
        byte[] disk = new byte[log.count(0) - place];
        for (int k = 0; k < disk.length; k++) {
            disk[k] = (byte) log.octet(place + k);
        }
        return disk;
    }

    static byte[] recordOf(int index, int kind, byte[] bytes, byte[] before) {
        byte[] head = {(byte) kind, (byte) bytes.length};
        return Model.join(Model.join(head, bytes), Model.tagOf(keyAt(index), index, kind, bytes, before));
    }

    static byte[] gapOf(int index, int over, byte[] before) {
        return recordOf(index, 3, new byte[] {(byte) (over >> 8), (byte) over}, before);
    }

    static byte[] tagOf(byte[] record) {
        return Arrays.copyOfRange(record, record.length - 8, record.length);
    }

    static void dueBytes(String what, byte[] want, byte[] got) {
        Checks.dueText(what, Arrays.toString(want), Arrays.toString(got));
    }

    static void dueKey(String what, byte[] want, ForwardLog log) {
        byte[] got = new byte[16];
        for (int k = 0; k < 16; k++) {
            got[k] = (byte) log.key(k);
        }
        dueBytes(what, want, got);
    }

    static void dueCounts(String what, ForwardLog log, int disk, int synced, int index, int up, int crashes) {
        Checks.due(what + ": disk", disk, log.count(0));
        Checks.due(what + ": synced", synced, log.count(1));
        Checks.due(what + ": index", index, log.count(2));
        Checks.due(what + ": up", up, log.count(3));
        Checks.due(what + ": crashes", crashes, log.count(4));
    }

    static void dueTold(String what, ForwardLog log, int bad, int begin, int good, int seal, int passed) {
        int[] want = {bad, begin, good, seal, passed};
        for (int k = 0; k < want.length; k++) {
            Checks.due(what + ": told " + k, want[k], log.told(k));
        }
    }

    /** Bends the disk's bytes from a place on to these. */
    static void bendTo(ForwardLog log, int place, byte... want) {
        for (int k = 0; k < want.length; k++) {
            int turned = log.octet(place + k) ^ want[k];
            for (int bit = 0; bit < 8; bit++) {
                if ((turned >> bit & 1) == 1) {
                    log.bend(place + k, bit);
                }
            }
        }
    }
}
