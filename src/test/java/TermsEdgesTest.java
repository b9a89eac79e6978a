import java.util.Arrays;

/**
 * The edges that the document's "Terms" name, a test for each sentence: the last that is taken and the first that
 * is refused. No log is asked more than 512 times, so a gap that the writer itself makes above 1000 can't be here:
 * it would need more than 1000 records of one log.
 */
final class TermsEdgesTest extends Logs {
    private static final byte[] NO_TAG = new byte[8];

    private TermsEdgesTest() {
    }

    public static void main(String[] args) {
        keysAreTheFirst16Bytes();
        kindsAre1To3();
        lengthsAre0To40();
        lengthsThatAByteCanHave();
        aSealHasNoBytes();
        aGapHasTwo();
        theIndexHasFourBytes();
        indexesGoOnFrom0();
        theFirstTagBeforeIsZeros();
        theWriterKeepsItsTag();
        behindARecoveryTheTagIsTheDisks();
        theDiskHasUpTo1200();
        syncedBytesStay();
        bendChangesSyncedBytes();
        recoveryDropsSyncedBytes();
        aCrashLeavesTheFirstSoMany();
        allBytesAreThere();
        allBytesAreThereAtTheDisksEnd();
        recoveryEndsAtTheFirstThatIsNone();
        tagsAreNotLookedAtInRecovery();
        aGapIsWrittenWhereTheDiskTellsLess();
        aGapTellsInTwoBytes();
        aGapIsNotSynced();
        withoutAGapIndexAndKeyStay();
        gapsOfAnyNumberAreWhole();
        aVerifierTakesGapsOf1To1000();
        indexesBehindAGap();
        anotherTagIsBad();
        whatIsBehindABadOneIsNotLookedAt();
        the512thCall();
        Checks.end();
    }

    /** A log of a seal and, behind it, other records of just so many bytes, to be bent into a forged one. */
    private static ForwardLog sealAnd(int size) {
        ForwardLog log = fresh();
        log.seal();
        write(log, size);
        return log;
    }

    /** Holds, for a record with its right tag behind a seal, whether a verifier and a recovery take it. */
    private static void dueWhole(int kind, int length, boolean whole) {
        String what = "a record of kind " + kind + " and " + length + " bytes";
        int over = 7;
        byte[] bytes = new byte[length];
        if (length > 1) {
            bytes[1] = (byte) over;
        }
        ForwardLog log = sealAnd(length + 10);
        int written = log.count(2);
        int index = kind == 3 && length == 2 ? 1 + over : 1;
        byte[] seal = recordOf(0, 2, new byte[0], NO_TAG);
        bendTo(log, 10, recordOf(index, kind, bytes, tagOf(seal)));
        Checks.due(what + ": verify", whole ? 2 : -3, verifyOf(log));
        Checks.due(what + ": which is bad", whole ? -1 : 1, log.told(0));
        Checks.due(what + ": where", whole ? -1 : 10, log.told(1));
        Checks.due(what + ": its kind", whole ? kind : -1, log.record(1, 0));
        Checks.due(what + ": its length", whole ? length : -1, log.record(1, 2));
        log.crash(HIGH);
        int next = whole ? index + 1 : 1;
        Checks.due(what + ": recover", Math.max(0, written - next), log.recover());
        Checks.due(what + ": synced", whole ? length + 20 : 10, log.count(1));
    }

    /** "KEY i + 1 is the first 16 bytes of the HASH of 75 and KEY i." */
    private static void keysAreTheFirst16Bytes() {
        int[][] firsts = {{0, 0, 0, 0}, {-1, -1, -1, -1}, {LOW, HIGH, LOW, HIGH}, {128, 255, 256, 65535}};
        for (int[] first : firsts) {
            ForwardLog log = new ForwardLog();
            log.begin(first[0], first[1], first[2], first[3]);
            byte[] key = Model.keyOf(first[0], first[1], first[2], first[3]);
            dueKey("key 0", key, log);
            for (int k = 1; k < 4; k++) {
                log.seal();
                key = Model.nextKey(key);
                dueKey("key " + k, key, log);
            }
            Checks.due("verify by this key", 3, log.verify(first[0], first[1], first[2], first[3]));
        }
    }

    /** "a KIND (1 ENTRY, 2 SEAL, 3 GAP)" */
    private static void kindsAre1To3() {
        dueWhole(0, 0, false);
        dueWhole(1, 0, true);
        dueWhole(2, 0, true);
        dueWhole(4, 0, false);
        dueWhole(0, 2, false);
        dueWhole(1, 2, true);
        dueWhole(3, 2, true);
        dueWhole(4, 2, false);
        for (int kind : new int[] {5, 127, 128, 129, 130, 131, 255}) {
            dueWhole(kind, 0, false);
            dueWhole(kind, 2, false);
        }
    }

    /** "a length 0 .. 40" */
    private static void lengthsAre0To40() {
        for (int length = 0; length <= 40; length++) {
            dueWhole(1, length, true);
        }
        dueWhole(1, 41, false);
    }

    /** A length is a byte without a sign, and above 40 it is none, though as many bytes are there. */
    private static void lengthsThatAByteCanHave() {
        for (int length : new int[] {41, 42, 63, 127, 128, 168, 254, 255}) {
            ForwardLog log = sealAnd(length + 10);
            int written = log.count(2);
            bendTo(log, 10, (byte) 1, (byte) length);
            log.crash(HIGH);
            Checks.due("recover, length " + length, written - 1, log.recover());
            Checks.due("synced, length " + length, 10, log.count(1));
        }
    }

    /** "A SEAL has no bytes" */
    private static void aSealHasNoBytes() {
        dueWhole(2, 0, true);
        for (int length : new int[] {1, 2, 3, 8, 39, 40, 41}) {
            dueWhole(2, length, false);
        }
    }

    /** "a GAP has two" */
    private static void aGapHasTwo() {
        for (int length : new int[] {0, 1, 3, 4, 39, 40, 41}) {
            dueWhole(3, length, false);
        }
        dueWhole(3, 2, true);
    }

    /** "of i (4 bytes)": the tag of an index above a byte's numbers. */
    private static void theIndexHasFourBytes() {
        ForwardLog log = fresh();
        lose(log, 239);
        Checks.due("a gap over 239", 239, log.recover());
        seals(log, 15);
        byte[] before = diskFrom(log, 154);
        Checks.due("seal 255", 255, log.seal());
        Checks.due("seal 256", 256, log.seal());
        Checks.due("entry 257", 257, entry(log, 1, 0));
        byte[] lower = recordOf(255, 2, new byte[0], before);
        byte[] higher = recordOf(256, 2, new byte[0], tagOf(lower));
        byte[] entry = recordOf(257, 1, counting(1, 0), tagOf(higher));
        dueBytes("the bytes of 255 to 257", Model.join(Model.join(lower, higher), entry), diskFrom(log, 162));
        Checks.due("verify up to 257", 19, verifyOf(log));
        Checks.due("index of the last one", 257, log.record(18, 1));
        Checks.due("index of that before", 256, log.record(17, 1));
    }

    /** "else INDEXES go on by one, from 0" */
    private static void indexesGoOnFrom0() {
        ForwardLog log = fresh();
        for (int k = 0; k < 120; k++) {
            Checks.due("seal " + k, k, log.seal());
        }
        Checks.due("verify them", 120, verifyOf(log));
        for (int k = 0; k < 120; k++) {
            Checks.due("index of " + k, k, log.record(k, 1));
        }
        Checks.due("index of none", -1, log.record(120, 1));
    }

    /** "eight 0 for the first one", be it an entry, a seal or a gap */
    private static void theFirstTagBeforeIsZeros() {
        ForwardLog made = new ForwardLog();
        made.seal();
        byte[] zeroKey = Model.tagOf(new byte[16], 0, 2, new byte[0], NO_TAG);
        dueBytes("first on a new log", zeroKey, tagOf(diskOf(made)));

        ForwardLog log = fresh();
        seals(log, 2);
        log.begin(1, -2, 3, -4);
        entry(log, 1, 9);
        dueBytes("first after begin", recordOf(0, 1, counting(1, 9), NO_TAG), diskOf(log));
        log.begin(1, -2, 3, -4);
        log.crash(0);
        Checks.due("recover of none", 0, log.recover());
        log.seal();
        dueBytes("first behind a recovery", recordOf(0, 2, new byte[0], NO_TAG), diskOf(log));
        log.crash(0);
        Checks.due("recover of a lost one", 1, log.recover());
        dueBytes("first is a gap", gapOf(1, 1, NO_TAG), diskOf(log));
    }

    /** "the TAG before, as THE WRITER keeps it": a bend does not reach it. */
    private static void theWriterKeepsItsTag() {
        ForwardLog log = fresh();
        entry(log, 1, 0);
        byte[] first = diskOf(log);
        log.bend(3, 0);
        log.bend(10, 7);
        log.seal();
        dueBytes("behind a bent tag", recordOf(1, 2, new byte[0], tagOf(first)), diskFrom(log, 11));
        log.bend(3, 0);
        log.bend(10, 7);
        Checks.due("verify, bent back", 2, verifyOf(log));
    }

    /** "behind a RECOVERY ... that of the RECORD before, as it is on THE DISK", its first and its last byte too */
    private static void behindARecoveryTheTagIsTheDisks() {
        for (int place : new int[] {3, 10}) {
            ForwardLog log = fresh();
            entry(log, 1, 0);
            seals(log, 1);
            log.bend(place, 4);
            log.crash(12);
            byte[] bent = Arrays.copyOf(diskOf(log), 11);
            Checks.due("recover", 1, log.recover());
            byte[] gap = gapOf(2, 1, tagOf(bent));
            dueBytes("gap behind a bent tag", gap, diskFrom(log, 11));
            log.seal();
            dueBytes("seal behind the gap", recordOf(3, 2, new byte[0], tagOf(gap)), diskFrom(log, 23));
            Checks.due("verify", -3, verifyOf(log));
            log.bend(place, 4);
            Checks.due("verify, bent back", -3, verifyOf(log));
            Checks.due("which is bad, bent back", 1, log.told(0));
        }
    }

    /** "THE DISK has up to 1200 bytes": a record that ends there is taken, one that ends behind it is FULL. */
    private static void theDiskHasUpTo1200() {
        for (int length = 0; length <= 40; length++) {
            ForwardLog just = fresh();
            write(just, 1190 - length);
            int index = just.count(2);
            Checks.due("append where it fits, " + length, index, entry(just, length, 0));
            Checks.due("bytes then", 1200, just.count(0));
            Checks.due("verify then", index + 1, verifyOf(just));
            Checks.due("append on a full disk", -2, entry(just, 0, 0));
            Checks.due("seal on a full disk", -2, just.seal());

            ForwardLog over = fresh();
            write(over, 1191 - length);
            Checks.due("append where it does not, " + length, -2, entry(over, length, 0));
            Checks.due("bytes then", 1191 - length, over.count(0));
            Checks.due("index then", over.count(2), verifyOf(over));
            if (length > 0) {
                Checks.due("append of one byte less", over.count(2), entry(over, length - 1, 0));
                Checks.due("bytes then", 1200, over.count(0));
            }
        }
    }

    /** "the first ones, SYNCED, stay in a CRASH" */
    private static void syncedBytesStay() {
        ForwardLog log = fresh();
        write(log, 1200);
        Checks.due("crash where none is synced", 1200, log.crash(0));
        dueCounts("none synced", log, 0, 0, 24, 0, 1);

        ForwardLog all = fresh();
        write(all, 1200);
        all.sync();
        Checks.due("crash where all are synced", 0, all.crash(0));
        dueCounts("all synced", all, 1200, 1200, 24, 0, 1);
        all.recover();
        Checks.due("verify what stayed", 24, verifyOf(all));

        ForwardLog but = fresh();
        write(but, 1190);
        but.sync();
        but.seal();
        Checks.due("crash where the last one is not", 10, but.crash(0));
        Checks.due("the last synced byte", 1, but.octet(1189) >= 0 ? 1 : 0);
        Checks.due("the first lost byte", -1, but.octet(1190));
    }

    /** "bend() changes them" */
    private static void bendChangesSyncedBytes() {
        ForwardLog log = fresh();
        entry(log, 3, 0);
        log.sync();
        log.bend(2, 0);
        log.bend(12, 0);
        byte[] bent = diskOf(log);
        log.crash(0);
        dueBytes("bent bytes stay in a crash", bent, diskOf(log));
        Checks.due("recover", 0, log.recover());
        dueBytes("and in a recovery", bent, diskOf(log));
        Checks.due("verify", -3, verifyOf(log));
    }

    /** "RECOVERY drops those that are in no WHOLE RECORD" */
    private static void recoveryDropsSyncedBytes() {
        ForwardLog log = fresh();
        seals(log, 3);
        log.sync();
        log.bend(21, 0);
        log.crash(0);
        Checks.due("synced before", 30, log.count(1));
        Checks.due("recover", 1, log.recover());
        dueCounts("the third one dropped", log, 32, 20, 4, 1, 1);

        ForwardLog none = fresh();
        seals(none, 3);
        none.sync();
        none.bend(0, 1);
        none.crash(0);
        Checks.due("recover of none", 3, none.recover());
        dueCounts("all dropped", none, 12, 0, 4, 1, 1);
    }

    /** "the bytes behind the SYNCED ones are lost but for the first so many" */
    private static void aCrashLeavesTheFirstSoMany() {
        for (int keep = 0; keep <= 25; keep++) {
            ForwardLog log = fresh();
            entry(log, 4, 0);
            log.sync();
            entry(log, 3, 60);
            log.seal();
            byte[] disk = diskOf(log);
            int kept = Math.min(23, keep);
            Checks.due("crash " + keep, 23 - kept, log.crash(keep));
            dueBytes("disk then", Arrays.copyOf(disk, 14 + kept), diskOf(log));
            Checks.due("behind it", -1, log.octet(14 + kept));
            dueCounts("crash " + keep, log, 14 + kept, 14, 3, 0, 1);
        }
    }

    /** "and all bytes there", for a recovery, and for a verifier: "it is BAD if it is not WHOLE" */
    private static void allBytesAreThere() {
        for (int kind = 1; kind <= 3; kind++) {
            int size = kind == 1 ? 50 : kind == 2 ? 10 : 12;
            for (int keep = 0; keep <= size; keep++) {
                ForwardLog log = fresh();
                entry(log, 4, 0);
                log.sync();
                if (kind == 1) {
                    entry(log, 40, 0);
                } else {
                    log.seal();
                }
                if (kind == 3) {
                    log.crash(0);
                    log.recover();
                }
                int index = log.count(2);
                log.crash(keep);
                boolean torn = keep > 0 && keep < size;
                String what = "kind " + kind + " with " + keep + " bytes there";
                Checks.due(what + ": verify", torn ? -3 : keep == 0 ? 1 : 2, verifyOf(log));
                Checks.due(what + ": which is bad", torn ? 1 : -1, log.told(0));
                Checks.due(what + ": where it begins", torn ? 14 : -1, log.told(1));
                Checks.due(what + ": recover", keep == size ? 0 : index - 1, log.recover());
                Checks.due(what + ": synced", keep == size ? 14 + size : 14, log.count(1));
            }
        }
    }

    /** The last record, of a bent length, ends just at byte 1200, or would end one behind it. */
    private static void allBytesAreThereAtTheDisksEnd() {
        dueSyncedAtTheEnd(40, 1200);
        dueSyncedAtTheEnd(39, 1199);
        dueSyncedAtTheEnd(38, 1198, 1, 0);
        dueSyncedAtTheEnd(31, 1191, 1, 0);
        dueSyncedAtTheEnd(30, 1200, 1, 0);
        dueSyncedAtTheEnd(30, 1200, 2, 0);
        dueSyncedAtTheEnd(30, 1190, 1, 1);
        dueSyncedAtTheEnd(28, 1200, 3, 2);
        dueSyncedAtTheEnd(29, 1189, 3, 2);
        dueSyncedAtTheEnd(28, 1188, 1, 3);
        dueSyncedAtTheEnd(20, 1180, 1, 11);
        dueSyncedAtTheEnd(20, 1200, 1, 10);
        dueSyncedAtTheEnd(20, 1199, 1, 9);
        dueSyncedAtTheEnd(41, 1150);
    }

    private static void dueSyncedAtTheEnd(int length, int synced, int... head) {
        ForwardLog log = fresh();
        write(log, 1200);
        bendTo(log, 1151, (byte) length);
        if (head.length > 0) {
            bendTo(log, 1160 + length, (byte) head[0], (byte) head[1]);
        }
        if (length == 39) {
            bendTo(log, 1199, (byte) 1);
        }
        log.crash(HIGH);
        Checks.due("recover, the 24th of " + length, length == 41 ? 1 : 0, log.recover());
        Checks.due("synced, the 24th of " + length, synced, log.count(1));
    }

    /** "up to the first that is none; what is behind them is lost, they are all SYNCED, THE WRITER is UP" */
    private static void recoveryEndsAtTheFirstThatIsNone() {
        for (int bad = 0; bad < 4; bad++) {
            ForwardLog log = fresh();
            seals(log, 4);
            log.bend(10 * bad, 3);
            log.crash(HIGH);
            Checks.due("recover, " + bad + " bent", 4 - bad, log.recover());
            dueCounts("recover, " + bad + " bent", log, 10 * bad + 12, 10 * bad, 5, 1, 1);
            Checks.due("verify, " + bad + " bent", bad + 1, verifyOf(log));
            Checks.due("the gap's kind", 3, log.record(bad, 0));
            Checks.due("the gap's index", 4, log.record(bad, 1));
        }
        ForwardLog empty = fresh();
        empty.crash(0);
        Checks.due("recover of an empty disk", 0, empty.recover());
        dueCounts("recover of an empty disk", empty, 0, 0, 0, 1, 1);
        Checks.due("seal then", 0, empty.seal());
        Checks.due("verify then", 1, verifyOf(empty));
    }

    /** "their TAGS are not looked at" */
    private static void tagsAreNotLookedAtInRecovery() {
        for (int place = 2; place < 10; place++) {
            ForwardLog log = fresh();
            seals(log, 2);
            log.bend(place, place % 8);
            log.crash(HIGH);
            Checks.due("recover, tag byte " + place + " bent", 0, log.recover());
            dueCounts("recover, tag byte " + place + " bent", log, 20, 20, 2, 1, 1);
        }
    }

    /** "If the next INDEX by them is less than THE WRITER's, a GAP is written": as many, one less, one more. */
    private static void aGapIsWrittenWhereTheDiskTellsLess() {
        int[][] overs = {{0, 5}, {1, 4}, {4, 1}, {5, 0}, {6, 0}, {7, 0}, {256, 0}, {1001, 0}};
        for (int[] over : overs) {
            ForwardLog log = fresh();
            seals(log, 5);
            log.crash(0);
            Checks.due("a gap over 5", 5, log.recover());
            bendTo(log, 2, (byte) (over[0] >> 8), (byte) over[0]);
            log.crash(HIGH);
            Checks.due("recover, a gap bent to " + over[0], over[1], log.recover());
            int more = over[1] > 0 ? 1 : 0;
            dueCounts("recover, a gap bent to " + over[0], log, 12 + 12 * more, 12, 6 + more, 1, 2);
            dueKey("key, a gap bent to " + over[0], keyAt(6 + more), log);
            if (more == 1) {
                byte[] before = Arrays.copyOfRange(diskOf(log), 4, 12);
                dueBytes("the gap behind it", gapOf(6, over[1], before), diskFrom(log, 12));
            }
        }
    }

    /** "how many INDEXES are passed over", the higher byte first: 255 and 256 of them */
    private static void aGapTellsInTwoBytes() {
        for (int over : new int[] {1, 2, 127, 128, 255, 256, 257, 300}) {
            ForwardLog log = fresh();
            lose(log, over);
            Checks.due("recover over " + over, over, log.recover());
            dueBytes("the gap over " + over, gapOf(over, over, NO_TAG), diskOf(log));
            Checks.due("verify it", 1, verifyOf(log));
            dueTold("verify it", log, -1, -1, 1, 0, over);
            Checks.due("its index", over, log.record(0, 1));
        }
    }

    /** "(it is not SYNCED)" */
    private static void aGapIsNotSynced() {
        for (int keep : new int[] {0, 1, 11, 12, 13}) {
            ForwardLog log = fresh();
            log.seal();
            log.sync();
            log.seal();
            log.crash(0);
            log.recover();
            dueCounts("behind the gap", log, 22, 10, 3, 1, 1);
            int kept = Math.min(12, keep);
            Checks.due("crash " + keep, 12 - kept, log.crash(keep));
            Checks.due("recover then", kept == 12 ? 0 : 2, log.recover());
        }
    }

    /** "else none, and THE WRITER's INDEX and KEY stay" */
    private static void withoutAGapIndexAndKeyStay() {
        ForwardLog log = fresh();
        entry(log, 2, 1);
        log.seal();
        log.crash(HIGH);
        Checks.due("recover where nothing is lost", 0, log.recover());
        dueCounts("nothing lost", log, 22, 22, 2, 1, 1);
        dueKey("nothing lost", keyAt(2), log);
        // The entry of 1 and 2 becomes a gap over 258: the disk then tells of more than the writer has.
        log.bend(0, 1);
        log.crash(0);
        Checks.due("recover where the disk tells more", 0, log.recover());
        dueCounts("the disk tells more", log, 22, 22, 2, 1, 2);
        dueKey("the disk tells more", keyAt(2), log);
        byte[] before = Arrays.copyOfRange(diskOf(log), 14, 22);
        Checks.due("the index goes on", 2, log.seal());
        dueBytes("its bytes", recordOf(2, 2, new byte[0], before), diskFrom(log, 22));
    }

    /** A recovery takes a gap of 0 and one above 1000 for whole, which a verifier does not. */
    private static void gapsOfAnyNumberAreWhole() {
        for (int over : new int[] {0, 1, 999, 1000, 1001, 1002, 32767, 32768, 65535}) {
            ForwardLog log = fresh();
            log.seal();
            entry(log, 2, 0);
            seals(log, 3);
            bendTo(log, 10, gapOf(1 + over, over, tagOf(recordOf(0, 2, new byte[0], NO_TAG))));
            log.crash(HIGH);
            Checks.due("verify, a gap of " + over, -3, verifyOf(log));
            Checks.due("which is bad, a gap of " + over, over == 0 || over > 1000 ? 1 : 2, log.told(0));
            Checks.due("recover, a gap of " + over, 0, log.recover());
            Checks.due("synced, a gap of " + over, 52, log.count(1));
        }
    }

    /** "a verifier takes 1 .. 1000", and "a GAP of 0, or above 1000" is BAD, at the beginning and behind a seal */
    private static void aVerifierTakesGapsOf1To1000() {
        for (int over : new int[] {0, 1, 2, 255, 256, 999, 1000, 1001, 1002, 1024, 2000, 32768, 65535}) {
            boolean good = over >= 1 && over <= 1000;
            ForwardLog first = fresh();
            entry(first, 2, 0);
            bendTo(first, 0, gapOf(over, over, NO_TAG));
            Checks.due("verify, first is a gap of " + over, good ? 1 : -3, verifyOf(first));
            int bad = good ? -1 : 0;
            dueTold("first is a gap of " + over, first, bad, bad, good ? 1 : 0, 0, good ? over : 0);

            ForwardLog second = sealAnd(12);
            byte[] seal = recordOf(0, 2, new byte[0], NO_TAG);
            bendTo(second, 10, gapOf(over + 1, over, tagOf(seal)));
            Checks.due("verify, second is a gap of " + over, good ? 2 : -3, verifyOf(second));
            dueTold("second is a gap of " + over, second, good ? -1 : 1, good ? -1 : 10, good ? 2 : 1, good ? 0 : 1,
                good ? over : 0);
            Checks.due("index of a gap of " + over, good ? over + 1 : -1, second.record(1, 1));
        }
    }

    /** Behind a gap the indexes go on by one, behind two gaps too; a gap with another index's tag is BAD. */
    private static void indexesBehindAGap() {
        ForwardLog log = fresh();
        entry(log, 2, 0);
        entry(log, 2, 0);
        log.seal();
        byte[] first = gapOf(1000, 1000, NO_TAG);
        byte[] second = gapOf(2001, 1000, tagOf(first));
        byte[] third = recordOf(2002, 2, new byte[0], tagOf(second));
        bendTo(log, 0, Model.join(Model.join(first, second), third));
        Checks.due("verify two gaps of 1000", 3, verifyOf(log));
        dueTold("two gaps of 1000", log, -1, -1, 3, 1, 2000);
        Checks.due("index of the second gap", 2001, log.record(1, 1));
        Checks.due("index behind the gaps", 2002, log.record(2, 1));
        for (int index : new int[] {0, 4, 6}) {
            ForwardLog other = fresh();
            entry(other, 2, 0);
            bendTo(other, 0, gapOf(index, 5, NO_TAG));
            Checks.due("verify a gap of 5 as index " + index, -3, verifyOf(other));
        }
    }

    /** "or its TAG is another one": each bit of an entry bent, and back; the tag of another place */
    private static void anotherTagIsBad() {
        for (int place = 0; place < 13; place++) {
            ForwardLog log = fresh();
            seals(log, 1);
            entry(log, 3, 0);
            for (int bit = 0; bit < 8; bit++) {
                String what = "byte " + place + " bit " + bit + " bent";
                log.bend(10 + place, bit);
                Checks.due("verify, " + what, -3, verifyOf(log));
                dueTold(what, log, 1, 10, 1, 1, 0);
                log.bend(10 + place, bit);
                Checks.due("verify, " + what + " back", 2, verifyOf(log));
            }
        }
        ForwardLog moved = fresh();
        seals(moved, 2);
        bendTo(moved, 10, recordOf(0, 2, new byte[0], NO_TAG));
        Checks.due("verify, the first record as the second", -3, verifyOf(moved));
        bendTo(moved, 10, recordOf(1, 2, new byte[0], NO_TAG));
        Checks.due("verify, the second one with no tag before", -3, verifyOf(moved));
    }

    /** "all behind it is not looked at" */
    private static void whatIsBehindABadOneIsNotLookedAt() {
        ForwardLog log = fresh();
        seals(log, 3);
        log.sync();
        log.seal();
        log.crash(0);
        log.recover();
        seals(log, 1);
        Checks.due("verify all", 5, verifyOf(log));
        dueTold("all", log, -1, -1, 5, 1, 1);
        for (int bad = 0; bad < 3; bad++) {
            log.bend(10 * bad + 9, 0);
            Checks.due("verify, " + bad + " bent", -3, verifyOf(log));
            dueTold(bad + " bent", log, bad, 10 * bad, bad, bad > 0 ? 1 : 0, 0);
            for (int row = 0; row < 6; row++) {
                Checks.due("record " + row, row < bad ? row : -1, log.record(row, 1));
            }
            log.bend(10 * bad + 9, 0);
        }
        log.bend(41, 0);
        Checks.due("verify, the gap's tag and that of the seal behind it bent", -3, verifyOf(log));
        dueTold("the gap bent", log, 3, 30, 3, 1, 0);
    }

    /** "An object is used for at most 512 calls": the last of them is answered as the first ones are. */
    private static void the512thCall() {
        for (int last = 0; last < 4; last++) {
            ForwardLog log = new ForwardLog();
            for (int k = 0; k < 252; k++) {
                log.crash(0);
                log.recover();
            }
            for (int k = 0; k < 7; k++) {
                Checks.due("seal " + k, k, log.seal());
            }
            String what = "the 512th call";
            switch (last) {
                case 0 -> Checks.due(what, 7, log.append());
                case 1 -> Checks.due(what, 7, log.verify(0, 0, 0, 0));
                case 2 -> Checks.due(what, 70, log.crash(0));
                default -> Checks.due(what, 252, log.count(4));
            }
        }
    }
}
