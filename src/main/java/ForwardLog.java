/** A log of records whose tags are made under keys that are turned on, so that old ones can't be made again. */
public final class ForwardLog {
    public static final int NONE = -1;
    public static final int FULL = -2;
    public static final int BAD = -3;

    private static final int ENTRY = 1;
    private static final int SEAL = 2;
    private static final int GAP = 3;

    private static final int DISK_ROOM = 1200;
    private static final int BYTES_ROOM = 40;
    private static final int FEED_ROOM = 16;
    private static final int HEAD_SIZE = 2;
    private static final int TAG_SIZE = 8;
    private static final int GAP_SIZE = 2;
    private static final int KEY_SIZE = 16;
    private static final int MOST_RECORDS = 120;
    private static final int MOST_PASSED_OVER = 1000;

    private static final int BLOCK_SIZE = 64;
    private static final int ROUNDS = 64;
    private static final int HASH_SIZE = 32;
    private static final int HASH_WORDS = 8;
    private static final int TEXT_ROOM = 128;
    private static final int INNER_PAD = 0x36;
    private static final int OUTER_PAD = 0x5c;
    private static final int TURN_MARK = 75;

    private static final int[] FIRST_STATE = {
        0x6a09e667, 0xbb67ae85, 0x3c6ef372, 0xa54ff53a, 0x510e527f, 0x9b05688c, 0x1f83d9ab, 0x5be0cd19
    };

    private static final int[] ROUND_WORDS = {
        0x428a2f98, 0x71374491, 0xb5c0fbcf, 0xe9b5dba5, 0x3956c25b, 0x59f111f1, 0x923f82a4, 0xab1c5ed5,
        0xd807aa98, 0x12835b01, 0x243185be, 0x550c7dc3, 0x72be5d74, 0x80deb1fe, 0x9bdc06a7, 0xc19bf174,
        0xe49b69c1, 0xefbe4786, 0x0fc19dc6, 0x240ca1cc, 0x2de92c6f, 0x4a7484aa, 0x5cb0a9dc, 0x76f988da,
        0x983e5152, 0xa831c66d, 0xb00327c8, 0xbf597fc7, 0xc6e00bf3, 0xd5a79147, 0x06ca6351, 0x14292967,
        0x27b70a85, 0x2e1b2138, 0x4d2c6dfc, 0x53380d13, 0x650a7354, 0x766a0abb, 0x81c2c92e, 0x92722c85,
        0xa2bfe8a1, 0xa81a664b, 0xc24b8b70, 0xc76c51a3, 0xd192e819, 0xd6990624, 0xf40e3585, 0x106aa070,
        0x19a4c116, 0x1e376c08, 0x2748774c, 0x34b0bcb5, 0x391c0cb3, 0x4ed8aa4a, 0x5b9cca4f, 0x682e6ff3,
        0x748f82ee, 0x78a5636f, 0x84c87814, 0x8cc70208, 0x90befffa, 0xa4506ceb, 0xbef9a3f7, 0xc67178f2
    };

    private final Hasher hasher;
    private final Disk disk;
    private final KeyChain writerKey;
    private final int[] lastTag;
    private final int[] buffer;
    private final int[] gapBytes;
    private final Verifier verifier;
    private int buffered;
    private boolean up;
    private int crashes;

    public ForwardLog() {
        hasher = new Hasher();
        disk = new Disk();
        writerKey = new KeyChain();
        lastTag = new int[TAG_SIZE];
        buffer = new int[BYTES_ROOM];
        gapBytes = new int[GAP_SIZE];
        verifier = new Verifier();
        buffered = 0;
        up = true;
        crashes = 0;
    }

    public void begin(int a, int b, int c, int d) {
        disk.cutTo(0);
        writerKey.start(a, b, c, d);
        disk.tagBefore(0, lastTag);
        up = true;
        crashes = 0;
        verifier.forget();
    }

    public int feed(int many, int a, int b, int c, int d) throws IllegalArgumentException, IllegalStateException {
        if (many < 0 || many > FEED_ROOM) {
            throw new IllegalArgumentException("many is not 0 .. 16");
        }
        if (buffered + many > BYTES_ROOM) {
            throw new IllegalStateException("the buffer has no room for so many");
        }
        for (int k = 0; k < many && buffered < BYTES_ROOM; k++) {
            buffer[buffered] = octetOfFour(k, a, b, c, d);
            buffered++;
        }
        return buffered;
    }

    public int erase() {
        int had = buffered;
        buffered = 0;
        return had;
    }

    public int append() throws IllegalStateException {
        if (!up) {
            throw new IllegalStateException("the writer is down");
        }
        return write(ENTRY, buffer, buffered);
    }

    public int seal() throws IllegalStateException {
        if (!up) {
            throw new IllegalStateException("the writer is down");
        }
        return write(SEAL, buffer, 0);
    }

    public int sync() throws IllegalStateException {
        if (!up) {
            throw new IllegalStateException("the writer is down");
        }
        disk.synced = disk.used;
        return disk.synced;
    }

    public int crash(int keep) throws IllegalArgumentException {
        if (keep < 0) {
            throw new IllegalArgumentException("keep is below 0");
        }
        int loose = disk.used - disk.synced;
        int kept = Math.min(keep, loose);
        disk.used = disk.synced + kept;
        up = false;
        crashes++;
        return loose - kept;
    }

    public int recover() throws IllegalStateException {
        if (up) {
            throw new IllegalStateException("the writer is up");
        }
        int end = disk.wholeEnd();
        int passedOver = Math.max(0, writerKey.index - disk.nextIndex());
        if (passedOver > 0 && end + recordSize(GAP_SIZE) > DISK_ROOM) {
            return FULL;
        }
        disk.cutTo(end);
        disk.tagBefore(end, lastTag);
        up = true;
        if (passedOver > 0) {
            gapBytes[0] = passedOver >>> 8 & 255;
            gapBytes[1] = passedOver & 255;
            write(GAP, gapBytes, GAP_SIZE);
        }
        return passedOver;
    }

    public int verify(int a, int b, int c, int d) {
        return verifier.goThrough(disk, hasher, a, b, c, d);
    }

    public int told(int what) throws IllegalArgumentException {
        if (what < 0 || what > 4) {
            throw new IllegalArgumentException("what is not 0 .. 4");
        }
        return verifier.answer(what);
    }

    public int record(int record, int what) throws IllegalArgumentException {
        if (what < 0 || what > HEAD_SIZE + BYTES_ROOM) {
            throw new IllegalArgumentException("what is not 0 .. 42");
        }
        return verifier.partOf(record, what);
    }

    public int bend(int place, int bit) throws IndexOutOfBoundsException, IllegalArgumentException {
        if (!disk.has(place)) {
            throw new IndexOutOfBoundsException("the disk has no such byte");
        }
        if (bit < 0 || bit > 7) {
            throw new IllegalArgumentException("bit is not 0 .. 7");
        }
        return disk.turnRound(place, bit);
    }

    public int octet(int k) {
        return disk.octetAt(k);
    }

    public int key(int k) throws IllegalArgumentException {
        if (k < 0 || k >= KEY_SIZE) {
            throw new IllegalArgumentException("k is not 0 .. 15");
        }
        return writerKey.octets[k];
    }

    public int count(int what) throws IllegalArgumentException {
        switch (what) {
            case 0:
                return disk.used;
            case 1:
                return disk.synced;
            case 2:
                return writerKey.index;
            case 3:
                return up ? 1 : 0;
            case 4:
                return crashes;
            case 5:
                return buffered;
            default:
                throw new IllegalArgumentException("what is not 0 .. 5");
        }
    }

    /** Writes a record behind the disk's bytes: its index; or FULL. */
    private int write(int kind, int[] bytes, int length) {
        int at = disk.used;
        if (at + recordSize(length) > DISK_ROOM) {
            return FULL;
        }
        int index = writerKey.index;
        disk.add(kind);
        disk.add(length);
        for (int k = 0; k < length && k < bytes.length; k++) {
            disk.add(bytes[k]);
        }
        hasher.makeTag(writerKey, disk, at, lastTag);
        for (int k = 0; k < TAG_SIZE; k++) {
            lastTag[k] = hasher.hashOctet(k);
            disk.add(lastTag[k]);
        }
        writerKey.turn(hasher);
        return index;
    }

    private static int recordSize(int length) {
        return HEAD_SIZE + length + TAG_SIZE;
    }

    /** Byte k, from 0 on and the highest first, of four numbers. */
    private static int octetOfFour(int k, int a, int b, int c, int d) {
        int number = k < 4 ? a : k < 8 ? b : k < 12 ? c : d;
        return number >>> 24 - 8 * (k & 3) & 255;
    }

    /** The bytes that are written, and how the records lie in them. */
    private static final class Disk {
        final int[] octets;
        int used;
        int synced;

        Disk() {
            octets = new int[DISK_ROOM];
            used = 0;
            synced = 0;
        }

        void cutTo(int end) {
            used = end;
            synced = end;
        }

        void add(int octet) {
            if (used >= 0 && used < octets.length) {
                octets[used] = octet & 255;
                used++;
            }
        }

        boolean has(int place) {
            return place >= 0 && place < used && place < octets.length;
        }

        int octetAt(int place) {
            return has(place) ? octets[place] : NONE;
        }

        int turnRound(int place, int bit) {
            if (!has(place)) {
                return NONE;
            }
            octets[place] = octets[place] ^ 1 << bit;
            return octets[place];
        }

        boolean isWhole(int at) {
            int kind = octetAt(at);
            int length = octetAt(at + 1);
            if (kind < ENTRY || kind > GAP || length < 0 || length > BYTES_ROOM) {
                return false;
            }
            if (kind == SEAL && length != 0 || kind == GAP && length != GAP_SIZE) {
                return false;
            }
            return at + recordSize(length) <= used;
        }

        int sizeAt(int at) {
            return recordSize(octetAt(at + 1));
        }

        /** How many indexes the record that begins there tells to be passed over before it. */
        int passedOverAt(int at) {
            if (octetAt(at) != GAP) {
                return 0;
            }
            return octetAt(at + HEAD_SIZE) << 8 | octetAt(at + HEAD_SIZE + 1);
        }

        /** Where the first record begins that is not whole. */
        int wholeEnd() {
            int at = 0;
            for (int n = 0; n < MOST_RECORDS && isWhole(at); n++) {
                at += sizeAt(at);
            }
            return at;
        }

        /** The index behind the last whole record, by what the records tell. */
        int nextIndex() {
            int next = 0;
            int at = 0;
            for (int n = 0; n < MOST_RECORDS && isWhole(at); n++) {
                next += passedOverAt(at) + 1;
                at += sizeAt(at);
            }
            return next;
        }

        /** Puts into the row the tag that ends before this place, eight 0 at the beginning. */
        void tagBefore(int place, int[] row) {
            for (int k = 0; k < TAG_SIZE && k < row.length; k++) {
                row[k] = Math.max(0, octetAt(place - TAG_SIZE + k));
            }
        }
    }

    /** A key, and the index whose key it is. */
    private static final class KeyChain {
        final int[] octets;
        int index;

        KeyChain() {
            octets = new int[KEY_SIZE];
            index = 0;
        }

        void start(int a, int b, int c, int d) {
            for (int k = 0; k < KEY_SIZE; k++) {
                octets[k] = octetOfFour(k, a, b, c, d);
            }
            index = 0;
        }

        void turn(Hasher hasher) {
            hasher.clear();
            hasher.put(TURN_MARK);
            for (int k = 0; k < KEY_SIZE; k++) {
                hasher.put(octets[k]);
            }
            hasher.finish();
            for (int k = 0; k < KEY_SIZE; k++) {
                octets[k] = hasher.hashOctet(k);
            }
            index++;
        }
    }

    /** Goes along the disk with a key of its own, and keeps what it found. */
    private static final class Verifier {
        private final KeyChain chain;
        private final int[] tagBefore;
        // The records found good are kept as they were then: the disk may be bent or lost after it.
        private final Disk seen;
        private final int[] begins;
        private final int[] indexes;
        private boolean hasRun;
        private int good;
        private int badBegin;
        private int passedOver;

        Verifier() {
            chain = new KeyChain();
            tagBefore = new int[TAG_SIZE];
            seen = new Disk();
            begins = new int[MOST_RECORDS];
            indexes = new int[MOST_RECORDS];
            forget();
        }

        void forget() {
            hasRun = false;
            good = 0;
            badBegin = NONE;
            passedOver = 0;
            seen.cutTo(0);
        }

        int goThrough(Disk disk, Hasher hasher, int a, int b, int c, int d) {
            forget();
            hasRun = true;
            chain.start(a, b, c, d);
            for (int place = 0; place < disk.used; place++) {
                seen.add(disk.octetAt(place));
            }
            int at = 0;
            for (int n = 0; n < MOST_RECORDS && at < seen.used; n++) {
                if (!isGood(at, hasher)) {
                    badBegin = at;
                    return BAD;
                }
                begins[n] = at;
                indexes[n] = chain.index;
                good = n + 1;
                passedOver += seen.passedOverAt(at);
                chain.turn(hasher);
                at += seen.sizeAt(at);
            }
            return good;
        }

        /** Whether the record that begins there is good; the key is then that of its index. */
        private boolean isGood(int at, Hasher hasher) {
            if (!seen.isWhole(at)) {
                return false;
            }
            int skipped = seen.passedOverAt(at);
            if (seen.octetAt(at) == GAP && (skipped < 1 || skipped > MOST_PASSED_OVER)) {
                return false;
            }
            for (int k = 0; k < skipped; k++) {
                chain.turn(hasher);
            }
            seen.tagBefore(at, tagBefore);
            hasher.makeTag(chain, seen, at, tagBefore);
            int tagBegin = at + seen.sizeAt(at) - TAG_SIZE;
            for (int k = 0; k < TAG_SIZE; k++) {
                if (seen.octetAt(tagBegin + k) != hasher.hashOctet(k)) {
                    return false;
                }
            }
            return true;
        }

        int answer(int what) {
            if (!hasRun) {
                return NONE;
            }
            switch (what) {
                case 0:
                    return badBegin == NONE ? NONE : good;
                case 1:
                    return badBegin;
                case 2:
                    return good;
                case 3:
                    return partOf(good - 1, 0) == SEAL ? 1 : 0;
                default:
                    return passedOver;
            }
        }

        int partOf(int number, int what) {
            if (number < 0 || number >= good || number >= MOST_RECORDS) {
                return NONE;
            }
            int at = begins[number];
            if (what == 0) {
                return seen.octetAt(at);
            }
            if (what == 1) {
                return indexes[number];
            }
            int length = seen.octetAt(at + 1);
            if (what == 2) {
                return length;
            }
            return what - 3 < length ? seen.octetAt(at + what - 1) : NONE;
        }
    }

    /** SHA-256 of a text of up to two blocks, and HMAC by it; its rows are used again for every text. */
    private static final class Hasher {
        private final int[] text;
        private final int[] schedule;
        private final int[] state;
        private int filled;

        Hasher() {
            text = new int[TEXT_ROOM];
            schedule = new int[ROUNDS];
            state = new int[HASH_WORDS];
            filled = 0;
        }

        void clear() {
            filled = 0;
        }

        void put(int octet) {
            if (filled >= 0 && filled < text.length) {
                text[filled] = octet & 255;
                filled++;
            }
        }

        /** Byte k of the last hash. */
        int hashOctet(int k) {
            if (k < 0 || k >= HASH_SIZE) {
                return 0;
            }
            return state[k >> 2] >>> 24 - 8 * (k & 3) & 255;
        }

        /** Makes the tag, as the first bytes of the hash, of the record that begins there. */
        void makeTag(KeyChain chain, Disk disk, int at, int[] before) {
            putKey(chain, INNER_PAD);
            for (int shift = 24; shift >= 0; shift -= 8) {
                put(chain.index >>> shift);
            }
            int length = disk.octetAt(at + 1);
            for (int k = 0; k < HEAD_SIZE + length; k++) {
                put(disk.octetAt(at + k));
            }
            for (int k = 0; k < TAG_SIZE && k < before.length; k++) {
                put(before[k]);
            }
            finish();
            putKey(chain, OUTER_PAD);
            for (int k = 0; k < HASH_SIZE; k++) {
                put(hashOctet(k));
            }
            finish();
        }

        private void putKey(KeyChain chain, int pad) {
            clear();
            for (int k = 0; k < BLOCK_SIZE; k++) {
                put(k < KEY_SIZE ? chain.octets[k] ^ pad : pad);
            }
        }

        /** Makes the hash of the text, which has room for its padding. */
        void finish() {
            int bits = filled * 8;
            put(0x80);
            int size = filled + 8 <= BLOCK_SIZE ? BLOCK_SIZE : TEXT_ROOM;
            for (int k = filled; k < size - 4; k++) {
                put(0);
            }
            for (int shift = 24; shift >= 0; shift -= 8) {
                put(bits >>> shift);
            }
            for (int k = 0; k < HASH_WORDS; k++) {
                state[k] = FIRST_STATE[k];
            }
            for (int from = 0; from + BLOCK_SIZE <= size; from += BLOCK_SIZE) {
                expand(from);
                compress();
            }
        }

        private void compress() {
            int a = state[0];
            int b = state[1];
            int c = state[2];
            int d = state[3];
            int e = state[4];
            int f = state[5];
            int g = state[6];
            int h = state[7];
            for (int t = 0; t < ROUNDS; t++) {
                int big = turned(e, 6) ^ turned(e, 11) ^ turned(e, 25);
                int first = h + big + (e & f ^ ~e & g) + ROUND_WORDS[t] + schedule[t];
                int small = turned(a, 2) ^ turned(a, 13) ^ turned(a, 22);
                int second = small + (a & b ^ a & c ^ b & c);
                h = g;
                g = f;
                f = e;
                e = d + first;
                d = c;
                c = b;
                b = a;
                a = first + second;
            }
            state[0] += a;
            state[1] += b;
            state[2] += c;
            state[3] += d;
            state[4] += e;
            state[5] += f;
            state[6] += g;
            state[7] += h;
        }

        private void expand(int from) {
            for (int t = 0; t < 16; t++) {
                int at = from + 4 * t;
                schedule[t] = text[at] << 24 | text[at + 1] << 16 | text[at + 2] << 8 | text[at + 3];
            }
            for (int t = 16; t < ROUNDS; t++) {
                int far = schedule[t - 15];
                int near = schedule[t - 2];
                int low = turned(far, 7) ^ turned(far, 18) ^ far >>> 3;
                int high = turned(near, 17) ^ turned(near, 19) ^ near >>> 10;
                schedule[t] = schedule[t - 16] + low + schedule[t - 7] + high;
            }
        }

        private static int turned(int word, int by) {
            return word >>> by | word << 32 - by;
        }
    }
}
