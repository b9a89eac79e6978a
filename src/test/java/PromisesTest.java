import java.util.Arrays;

/** For each promise its ordinary answers, its edges and its wrong inputs; the hashes due are the library's own. */
final class PromisesTest extends Logs {
    private PromisesTest() {
    }

    public static void main(String[] args) {
        aNewObject();
        begin();
        feed();
        erase();
        append();
        appendWhereItIsFull();
        seal();
        sync();
        crash();
        crashWhileDown();
        recover();
        recoverDropsWhatIsNotWhole();
        recoverTakesTheTagFromTheDisk();
        recoverBehindTheWriter();
        recoverWhereItIsFull();
        verify();
        verifyTornAndBentRecords();
        verifyForgedGaps();
        told();
        record();
        recordIsThatOfTheLastVerifying();
        bend();
        octet();
        key();
        count();
        Checks.end();
    }

    private static void aNewObject() {
        ForwardLog log = new ForwardLog();
        dueCounts("new", log, 0, 0, 0, 1, 0);
        Checks.due("new: buffer", 0, log.count(5));
        dueKey("new: key", new byte[16], log);
        dueTold("new", log, -1, -1, -1, -1, -1);
        Checks.due("new: octet", -1, log.octet(0));
        Checks.due("new: record", -1, log.record(0, 0));
        Checks.due("new: append", 0, log.append());
        Checks.due("new: verify by the key of 0", 1, log.verify(0, 0, 0, 0));
        Checks.due("new: verify by another key", -3, log.verify(0, 0, 0, 1));
    }

    private static void begin() {
        ForwardLog log = new ForwardLog();
        log.begin(0x01020304, 0xfffefdfc, 0x7f000080, LOW);
        dueKey("begin: key", new byte[] {1, 2, 3, 4, -1, -2, -3, -4, 127, 0, 0, -128, -128, 0, 0, 0}, log);
        entry(log, 5, 7);
        log.sync();
        log.seal();
        log.verify(0x01020304, 0xfffefdfc, 0x7f000080, LOW);
        Checks.due("begin: verify", 2, log.told(2));
        log.crash(0);
        log.begin(1, -2, 3, -4);
        dueCounts("begin again", log, 0, 0, 0, 1, 0);
        Checks.due("begin again: the buffer stays", 5, log.count(5));
        dueKey("begin again: key", keyAt(0), log);
        dueTold("begin again", log, -1, -1, -1, -1, -1);
        Checks.due("begin again: record", -1, log.record(0, 0));
        Checks.due("begin again: octet", -1, log.octet(0));
        log.append();
        dueBytes("begin again: its first record has eight 0 before", recordOf(0, 1, counting(5, 7), new byte[8]),
            diskOf(log));
    }

    private static void feed() {
        ForwardLog log = fresh();
        Checks.due("feed 0", 0, log.feed(0, 9, 9, 9, 9));
        Checks.due("feed 6", 6, log.feed(6, 0x01020304, 0xa0b0c0d0, -1, -1));
        Checks.due("feed 16", 22, log.feed(16, 0x11223344, 0x55667788, 0x99aabbcc, 0xddeeff00));
        Checks.due("feed 11", 33, log.feed(11, 1, 2, 0x03040506, 0));
        Checks.dueThrow("feed 8 of 33", Checks.STATE, () -> log.feed(8, 0, 0, 0, 0));
        Checks.dueThrow("feed 16 of 33", Checks.STATE, () -> log.feed(16, 0, 0, 0, 0));
        Checks.dueThrow("feed 17", Checks.ARGUMENT, () -> log.feed(17, 0, 0, 0, 0));
        Checks.dueThrow("feed -1", Checks.ARGUMENT, () -> log.feed(-1, 0, 0, 0, 0));
        Checks.dueThrow("feed least", Checks.ARGUMENT, () -> log.feed(LOW, 0, 0, 0, 0));
        Checks.dueThrow("feed most", Checks.ARGUMENT, () -> log.feed(HIGH, 0, 0, 0, 0));
        Checks.due("feed: what throws changes nothing", 33, log.count(5));
        Checks.due("feed 7", 40, log.feed(7, 0x71727374, 0x75767700, 0, 0));
        Checks.due("feed 0 of 40", 40, log.feed(0, 0, 0, 0, 0));
        Checks.dueThrow("feed 1 of 40", Checks.STATE, () -> log.feed(1, 0, 0, 0, 0));
        log.append();
        int[] want = {
            1, 2, 3, 4, 0xa0, 0xb0, 0x11, 0x22, 0x33, 0x44, 0x55, 0x66, 0x77, 0x88, 0x99, 0xaa, 0xbb, 0xcc, 0xdd, 0xee,
            0xff, 0, 0, 0, 0, 1, 0, 0, 0, 2, 3, 4, 5, 0x71, 0x72, 0x73, 0x74, 0x75, 0x76, 0x77
        };
        for (int k = 0; k < want.length; k++) {
            Checks.due("feed: byte " + k, want[k], log.octet(2 + k));
        }
        log.crash(0);
        log.erase();
        Checks.due("feed while down", 3, log.feed(3, 0, 0, 0, 0));
    }

    private static void erase() {
        ForwardLog log = fresh();
        Checks.due("erase of none", 0, log.erase());
        log.feed(9, 0, 0, 0, 0);
        Checks.due("erase of 9", 9, log.erase());
        Checks.due("erase again", 0, log.erase());
        Checks.due("erase: buffer", 0, log.count(5));
        log.feed(1, 0x05000000, 0, 0, 0);
        log.append();
        dueBytes("erase: the bytes after it", recordOf(0, 1, new byte[] {5}, new byte[8]), diskOf(log));
        log.crash(0);
        Checks.due("erase while down", 1, log.erase());
    }

    private static void append() {
        ForwardLog log = fresh();
        Checks.due("append of none", 0, log.append());
        fill(log, 40, 200);
        Checks.due("append of 40", 1, log.append());
        Checks.due("append: the buffer stays", 40, log.count(5));
        Checks.due("append the same", 2, log.append());
        byte[] first = recordOf(0, 1, new byte[0], new byte[8]);
        byte[] second = recordOf(1, 1, counting(40, 200), tagOf(first));
        byte[] third = recordOf(2, 1, counting(40, 200), tagOf(second));
        dueBytes("append: disk", Model.join(Model.join(first, second), third), diskOf(log));
        dueCounts("append", log, 110, 0, 3, 1, 0);
        dueKey("append: key", keyAt(3), log);
        // The writer goes by the tag that it keeps, not by that on the disk.
        log.bend(109, 0);
        entry(log, 2, 1);
        dueBytes("append behind a bent tag", recordOf(3, 1, counting(2, 1), tagOf(third)),
            Arrays.copyOfRange(diskOf(log), 110, 122));
        log.crash(0);
        Checks.dueThrow("append while down", Checks.STATE, log::append);
        dueCounts("append while down", log, 0, 0, 4, 0, 1);
    }

    private static void appendWhereItIsFull() {
        ForwardLog log = fresh();
        fill(log, 40, 0);
        for (int k = 0; k < 23; k++) {
            Checks.due("append " + k, k, log.append());
        }
        entry(log, 31, 0);
        dueCounts("nearly full", log, 1191, 0, 24, 1, 0);
        log.erase();
        Checks.due("append where 9 are left", -2, log.append());
        Checks.due("seal where 9 are left", -2, log.seal());
        dueCounts("full", log, 1191, 0, 24, 1, 0);
        dueKey("full: key", keyAt(24), log);
        Checks.due("full: verify", 24, verifyOf(log));
        log.crash(0);
        Checks.dueThrow("append while down", Checks.STATE, log::append);

        ForwardLog other = fresh();
        fill(other, 40, 0);
        for (int k = 0; k < 23; k++) {
            other.append();
        }
        entry(other, 22, 0);
        Checks.due("34 bytes written at 1150", 1182, other.count(0));
        fill(other, 9, 0);
        Checks.due("append of 19 where 18 are left", -2, other.append());
        fill(other, 8, 0);
        Checks.due("append of 18 where 18 are left", 24, other.append());
        Checks.due("the disk is full", 1200, other.count(0));
        Checks.due("the full disk is good", 25, verifyOf(other));
        Checks.due("sync where it is full", 1200, other.sync());
        other.crash(0);
        Checks.dueThrow("seal while down and full", Checks.STATE, other::seal);
        Checks.dueThrow("append while down and full", Checks.STATE, other::append);
        Checks.due("recover the full disk", 0, other.recover());

        // The most records that there can be: 120 of ten bytes.
        ForwardLog small = fresh();
        for (int k = 0; k < 120; k++) {
            Checks.due("seal " + k, k, small.seal());
        }
        Checks.due("seal 120", -2, small.seal());
        Checks.due("120 records are good", 120, verifyOf(small));
        Checks.due("the last one", 119, small.record(119, 1));
        Checks.due("none behind it", -1, small.record(120, 1));
        small.crash(HIGH);
        Checks.due("recover 120 records", 0, small.recover());
        dueCounts("recover 120 records", small, 1200, 1200, 120, 1, 1);
    }

    private static void seal() {
        ForwardLog log = fresh();
        fill(log, 3, 0);
        Checks.due("seal", 0, log.seal());
        Checks.due("seal: the buffer stays", 3, log.count(5));
        byte[] first = recordOf(0, 2, new byte[0], new byte[8]);
        dueBytes("seal: disk", first, diskOf(log));
        dueKey("seal: key", keyAt(1), log);
        Checks.due("seal again", 1, log.seal());
        dueBytes("seal again: disk", Model.join(first, recordOf(1, 2, new byte[0], tagOf(first))), diskOf(log));
        log.crash(HIGH);
        Checks.dueThrow("seal while down", Checks.STATE, log::seal);
        dueCounts("seal while down", log, 20, 0, 2, 0, 1);
    }

    private static void sync() {
        ForwardLog log = fresh();
        Checks.due("sync of none", 0, log.sync());
        entry(log, 4, 0);
        Checks.due("not synced", 0, log.count(1));
        Checks.due("sync", 14, log.sync());
        Checks.due("synced", 14, log.count(1));
        log.seal();
        Checks.due("sync of all", 24, log.sync());
        log.seal();
        log.crash(3);
        Checks.dueThrow("sync while down", Checks.STATE, log::sync);
        dueCounts("sync while down", log, 27, 24, 3, 0, 1);
    }

    private static void crash() {
        ForwardLog log = fresh();
        entry(log, 4, 0);
        log.sync();
        log.seal();
        log.seal();
        Checks.dueThrow("crash -1", Checks.ARGUMENT, () -> log.crash(-1));
        Checks.dueThrow("crash least", Checks.ARGUMENT, () -> log.crash(LOW));
        dueCounts("crash -1", log, 34, 14, 3, 1, 0);
        byte[] before = diskOf(log);
        Checks.due("crash 13", 7, log.crash(13));
        dueCounts("crash 13", log, 27, 14, 3, 0, 1);
        dueBytes("crash 13: disk", Arrays.copyOf(before, 27), diskOf(log));
        Checks.due("crash: what is lost is not there", -1, log.octet(27));
        dueKey("crash: the key stays", keyAt(3), log);
        Checks.due("crash: the buffer stays", 4, log.count(5));

        ForwardLog other = fresh();
        Checks.due("crash of none", 0, other.crash(HIGH));
        dueCounts("crash of none", other, 0, 0, 0, 0, 1);
        Checks.due("recover of none", 0, other.recover());
        other.seal();
        Checks.due("crash that keeps all", 0, other.crash(10));
        other.recover();
        other.seal();
        Checks.due("crash that keeps most", 1, other.crash(9));
        other.recover();
        other.sync();
        other.seal();
        Checks.due("crash that keeps more than there are", 0, other.crash(HIGH));
        Checks.due("four crashes", 4, other.count(4));
    }

    private static void crashWhileDown() {
        ForwardLog log = fresh();
        log.seal();
        log.sync();
        log.seal();
        log.seal();
        Checks.due("crash 15", 5, log.crash(15));
        Checks.due("crash 12 while down", 3, log.crash(12));
        dueCounts("crash twice", log, 22, 10, 3, 0, 2);
        Checks.due("crash 0 while down", 12, log.crash(0));
        Checks.dueThrow("crash -1 while down", Checks.ARGUMENT, () -> log.crash(-1));
        dueCounts("crash three times", log, 10, 10, 3, 0, 3);
        Checks.due("recover then", 2, log.recover());
        Checks.due("the gap is not synced", 12, log.crash(0));
        Checks.due("recover with the gap too", 3, log.recover());
    }

    private static void recover() {
        ForwardLog log = fresh();
        Checks.dueThrow("recover while up", Checks.STATE, log::recover);
        entry(log, 4, 1);
        log.sync();
        log.seal();
        log.seal();
        log.crash(15);
        Checks.due("recover", 1, log.recover());
        dueCounts("recover", log, 36, 24, 4, 1, 1);
        byte[] first = recordOf(0, 1, counting(4, 1), new byte[8]);
        byte[] second = recordOf(1, 2, new byte[0], tagOf(first));
        byte[] third = recordOf(3, 3, new byte[] {0, 1}, tagOf(second));
        dueBytes("recover: disk", Model.join(Model.join(first, second), third), diskOf(log));
        dueKey("recover: key", keyAt(4), log);
        Checks.dueThrow("recover again", Checks.STATE, log::recover);
        Checks.due("seal behind the gap", 4, log.seal());
        dueBytes("behind the gap", recordOf(4, 2, new byte[0], tagOf(third)),
            Arrays.copyOfRange(diskOf(log), 36, 46));
        Checks.due("verify the gap", 4, verifyOf(log));

        log.crash(22);
        Checks.due("recover of whole records alone", 0, log.recover());
        dueCounts("recover of whole records alone", log, 46, 46, 5, 1, 2);
        dueKey("recover of whole records alone: key", keyAt(5), log);

        ForwardLog wide = fresh();
        for (int k = 0; k < 300; k++) {
            if (wide.seal() == ForwardLog.FULL) {
                wide.crash(0);
                wide.recover();
            }
        }
        wide.crash(0);
        int passed = wide.recover();
        Checks.due("recover over more than a byte tells", 1, passed > 255 ? 1 : 0);
        Checks.due("recover: the higher byte", passed >> 8, wide.octet(2));
        Checks.due("recover: the lower byte", passed & 255, wide.octet(3));
        Checks.due("verify it", 1, verifyOf(wide));
        Checks.due("told of it", passed, wide.told(4));
    }

    private static void recoverDropsWhatIsNotWhole() {
        int[][] bends = {
            {10, 1, 1}, {10, 2, 1}, {10, 7, 1}, {11, 5, 1}, {11, 3, 1}, {10, 0, 1}, {20, 0, 2}, {21, 3, 2}
        };
        // Kinds 0, 6 and 130, a seal of 32 and of 8 bytes, a gap of none; then the third record's kind 3 and length 8.
        for (int[] bend : bends) {
            ForwardLog log = fresh();
            for (int k = 0; k < 4; k++) {
                log.seal();
            }
            log.sync();
            log.bend(bend[0], bend[1]);
            log.crash(0);
            String what = "recover behind bend " + bend[0] + " " + bend[1];
            int left = bend[2];
            Checks.due(what, 4 - left, log.recover());
            dueCounts(what, log, 10 * left + 12, 10 * left, 5, 1, 1);
            Checks.due(what + ": verify", left + 1, verifyOf(log));
        }
        // An entry of 40 bytes is whole, one of 41 is none, though all its bytes are there.
        ForwardLog log = fresh();
        entry(log, 40, 0);
        log.seal();
        log.sync();
        log.bend(1, 0);
        log.crash(0);
        Checks.due("recover of 41 bytes", 2, log.recover());
        Checks.due("recover of 41 bytes: synced", 0, log.count(1));

        // A tag is not looked at, nor what the bytes are.
        ForwardLog bent = fresh();
        entry(bent, 5, 0);
        bent.seal();
        bent.bend(3, 3);
        bent.bend(9, 3);
        bent.crash(HIGH);
        Checks.due("recover of bent bytes", 0, bent.recover());
        dueCounts("recover of bent bytes", bent, 25, 25, 2, 1, 1);
    }

    private static void recoverTakesTheTagFromTheDisk() {
        ForwardLog log = fresh();
        log.seal();
        log.bend(9, 0);
        log.crash(HIGH);
        Checks.due("recover of a bent tag", 0, log.recover());
        byte[] tag = tagOf(diskOf(log));
        log.seal();
        dueBytes("behind the bent tag", recordOf(1, 2, new byte[0], tag), Arrays.copyOfRange(diskOf(log), 10, 20));

        ForwardLog other = fresh();
        other.seal();
        other.seal();
        other.bend(9, 7);
        other.crash(12);
        Checks.due("recover with a gap behind a bent tag", 1, other.recover());
        tag = Arrays.copyOfRange(diskOf(other), 2, 10);
        dueBytes("the gap behind the bent tag", recordOf(2, 3, new byte[] {0, 1}, tag),
            Arrays.copyOfRange(diskOf(other), 10, 22));

        ForwardLog none = fresh();
        none.seal();
        none.crash(0);
        Checks.due("recover of none", 1, none.recover());
        dueBytes("the gap behind none", recordOf(1, 3, new byte[] {0, 1}, new byte[8]), diskOf(none));
    }

    private static void recoverBehindTheWriter() {
        // An entry of two bytes is bent to a gap over 0x0709 indexes: the disk tells more than the writer has.
        ForwardLog log = fresh();
        log.feed(2, 0x07090000, 0, 0, 0);
        log.append();
        log.seal();
        log.bend(0, 1);
        log.crash(HIGH);
        Checks.due("recover where the disk tells more", 0, log.recover());
        dueCounts("recover where the disk tells more", log, 22, 22, 2, 1, 1);
        dueKey("recover where the disk tells more: key", keyAt(2), log);
        Checks.due("the index goes on", 2, log.seal());

        // A gap bent to fewer is told again by the rest.
        ForwardLog other = fresh();
        for (int k = 0; k < 6; k++) {
            other.seal();
        }
        other.crash(0);
        Checks.due("a gap of 6", 6, other.recover());
        other.bend(3, 1);
        other.crash(HIGH);
        Checks.due("a gap bent to 4", 2, other.recover());
        other.bend(3, 2);
        other.crash(HIGH);
        Checks.due("a gap bent to 0 is whole", 4, other.recover());
        Checks.due("three gaps", 36, other.count(0));
    }

    private static void recoverWhereItIsFull() {
        ForwardLog log = fresh();
        fill(log, 40, 0);
        for (int k = 0; k < 23; k++) {
            log.append();
        }
        entry(log, 29, 0);
        log.sync();
        log.seal();
        log.crash(7);
        byte[] before = diskFrom(log, 1140);
        Checks.due("recover where 11 are left", -2, log.recover());
        dueCounts("recover where 11 are left", log, 1196, 1189, 25, 0, 1);
        dueBytes("recover where 11 are left: the disk's end", before, diskFrom(log, 1140));
        dueKey("recover where 11 are left: key", keyAt(25), log);
        Checks.due("recover again", -2, log.recover());
        Checks.dueThrow("append then", Checks.STATE, log::append);
        // Its length bent to another one makes the last record none: then there is room.
        log.bend(1151, 5);
        Checks.due("recover where there is room", 2, log.recover());
        dueCounts("recover where there is room", log, 1162, 1150, 26, 1, 1);
        Checks.due("verify then", 24, verifyOf(log));

        ForwardLog just = fresh();
        fill(just, 40, 0);
        for (int k = 0; k < 23; k++) {
            just.append();
        }
        entry(just, 28, 0);
        just.sync();
        just.seal();
        just.crash(0);
        Checks.due("recover where 12 are left", 1, just.recover());
        dueCounts("recover where 12 are left", just, 1200, 1188, 26, 1, 1);
        Checks.due("verify then", 25, verifyOf(just));

        ForwardLog anew = fresh();
        for (int k = 0; k < 119; k++) {
            anew.seal();
        }
        anew.sync();
        anew.seal();
        anew.crash(9);
        Checks.due("recover where 10 are left", -2, anew.recover());
        anew.begin(1, -2, 3, -4);
        Checks.due("begin makes it up", 0, anew.seal());
    }

    private static void verify() {
        ForwardLog log = fresh();
        Checks.due("verify of none", 0, verifyOf(log));
        dueTold("verify of none", log, -1, -1, 0, 0, 0);
        entry(log, 3, 0);
        log.seal();
        log.sync();
        log.seal();
        log.seal();
        log.crash(3);
        Checks.due("verify of a torn one while down", -3, verifyOf(log));
        dueTold("verify of a torn one", log, 2, 23, 2, 1, 0);
        log.recover();
        Checks.due("verify", 3, verifyOf(log));
        dueTold("verify", log, -1, -1, 3, 0, 2);
        log.seal();
        Checks.due("verify with a seal", 4, verifyOf(log));
        dueTold("verify with a seal", log, -1, -1, 4, 1, 2);
        dueCounts("verify changes nothing", log, 45, 23, 6, 1, 1);
        dueKey("verify changes no key", keyAt(6), log);
        Checks.due("verify by another first number", -3, log.verify(0, -2, 3, -4));
        Checks.due("verify by another second number", -3, log.verify(1, -3, 3, -4));
        Checks.due("verify by another third number", -3, log.verify(1, -2, LOW, -4));
        Checks.due("verify by another last number", -3, log.verify(1, -2, 3, -5));
        dueTold("verify by another key", log, 0, 0, 0, 0, 0);
    }

    private static void verifyTornAndBentRecords() {
        ForwardLog log = fresh();
        entry(log, 3, 0);
        log.seal();
        entry(log, 1, 9);
        log.sync();
        Checks.due("verify before bends", 3, verifyOf(log));
        for (int place = 0; place < 34; place++) {
            int bit = place % 8;
            log.bend(place, bit);
            Checks.due("verify with bend " + place, -3, verifyOf(log));
            int bad = place < 13 ? 0 : place < 23 ? 1 : 2;
            dueTold("verify with bend " + place, log, bad, bad == 0 ? 0 : bad == 1 ? 13 : 23, bad, bad == 2 ? 1 : 0, 0);
            log.bend(place, bit);
        }
        Checks.due("verify after bends", 3, verifyOf(log));
        for (int keep = 9; keep > 0; keep--) {
            ForwardLog torn = fresh();
            torn.seal();
            torn.sync();
            torn.seal();
            torn.crash(keep);
            Checks.due("verify with " + keep + " bytes of a record", -3, verifyOf(torn));
            dueTold("verify with " + keep + " bytes of a record", torn, 1, 10, 1, 1, 0);
        }
        // A record in another's place is bad though its tag was once good.
        ForwardLog moved = fresh();
        entry(moved, 1, 5);
        entry(moved, 1, 5);
        bendTo(moved, 0, Arrays.copyOfRange(diskOf(moved), 11, 22));
        Checks.due("verify of the second record as the first", -3, verifyOf(moved));
        Checks.due("which one", 0, moved.told(0));
    }

    private static void verifyForgedGaps() {
        int[] overs = {0, 1, 999, 1000, 1001, 65535};
        for (int over : overs) {
            ForwardLog log = fresh();
            log.feed(2, over << 16, 0, 0, 0);
            log.append();
            byte[] bytes = {(byte) (over >> 8), (byte) over};
            bendTo(log, 0, recordOf(over, 3, bytes, new byte[8]));
            boolean good = over >= 1 && over <= 1000;
            Checks.due("verify of a gap over " + over, good ? 1 : -3, verifyOf(log));
            int bad = good ? -1 : 0;
            dueTold("verify of a gap over " + over, log, bad, bad, good ? 1 : 0, 0, good ? over : 0);
            Checks.due("its index", good ? over : -1, log.record(0, 1));
        }
        // An entry of 41 bytes, a seal with two and a kind 4, each with the tag that it would have.
        ForwardLog log = fresh();
        entry(log, 40, 0);
        log.seal();
        bendTo(log, 0, recordOf(0, 1, counting(41, 0), new byte[8]));
        Checks.due("verify of 41 bytes", -3, verifyOf(log));
        ForwardLog sealed = fresh();
        entry(sealed, 2, 0);
        bendTo(sealed, 0, recordOf(0, 2, counting(2, 0), new byte[8]));
        Checks.due("verify of a seal with bytes", -3, verifyOf(sealed));
        bendTo(sealed, 0, recordOf(0, 1, counting(2, 0), new byte[8]));
        Checks.due("verify of an entry with these", 1, verifyOf(sealed));
        bendTo(sealed, 0, recordOf(0, 4, counting(2, 0), new byte[8]));
        Checks.due("verify of a kind 4", -3, verifyOf(sealed));
    }

    private static void told() {
        ForwardLog log = fresh();
        entry(log, 1, 0);
        dueTold("told before a verifying", log, -1, -1, -1, -1, -1);
        Checks.dueThrow("told -1 before a verifying", Checks.ARGUMENT, () -> log.told(-1));
        Checks.dueThrow("told 5 before a verifying", Checks.ARGUMENT, () -> log.told(5));
        verifyOf(log);
        dueTold("told", log, -1, -1, 1, 0, 0);
        for (int what : new int[] {-1, 5, LOW, HIGH}) {
            Checks.dueThrow("told " + what, Checks.ARGUMENT, () -> log.told(what));
        }
        log.seal();
        log.bend(2, 0);
        log.crash(0);
        dueTold("told of the last verifying, whatever came then", log, -1, -1, 1, 0, 0);
        verifyOf(log);
        dueTold("told of an empty disk", log, -1, -1, 0, 0, 0);
        log.recover();
        log.seal();
        log.sync();
        log.seal();
        log.crash(0);
        log.recover();
        log.bend(23, 1);
        verifyOf(log);
        dueTold("told of the gaps that were good alone", log, 2, 22, 2, 1, 2);
        log.bend(23, 1);
        verifyOf(log);
        dueTold("told of all gaps", log, -1, -1, 3, 0, 3);
        log.begin(1, -2, 3, -4);
        dueTold("told after begin", log, -1, -1, -1, -1, -1);
    }

    private static void record() {
        ForwardLog log = fresh();
        entry(log, 40, 216);
        log.seal();
        log.sync();
        log.seal();
        log.crash(0);
        log.recover();
        Checks.due("record before a verifying", -1, log.record(0, 0));
        Checks.due("verify", 3, verifyOf(log));
        int[][] want = {{1, 0, 40, 216}, {2, 1, 0, -1}, {3, 3, 2, 0}};
        for (int row = 0; row < 3; row++) {
            for (int what = 0; what < 4; what++) {
                Checks.due("record " + row + " " + what, want[row][what], log.record(row, what));
            }
        }
        Checks.due("record 0 42", 255, log.record(0, 42));
        Checks.due("record 0 41", 254, log.record(0, 41));
        Checks.due("record 1 42", -1, log.record(1, 42));
        Checks.due("record 2 4", 1, log.record(2, 4));
        Checks.due("record 2 5", -1, log.record(2, 5));
        for (int row : new int[] {-1, 3, 119, 120, 1200, LOW, HIGH}) {
            Checks.due("record " + row, -1, log.record(row, 1));
            Checks.dueThrow("record " + row + " 43", Checks.ARGUMENT, () -> log.record(row, 43));
        }
        for (int what : new int[] {-1, 43, LOW, HIGH}) {
            Checks.dueThrow("record 0 " + what, Checks.ARGUMENT, () -> log.record(0, what));
        }
    }

    private static void recordIsThatOfTheLastVerifying() {
        ForwardLog log = fresh();
        entry(log, 2, 7);
        log.seal();
        verifyOf(log);
        log.bend(2, 0);
        Checks.due("record as it was found good", 7, log.record(0, 3));
        log.crash(0);
        Checks.due("record of a lost one", 8, log.record(0, 4));
        Checks.due("record of a lost seal", 2, log.record(1, 0));

        ForwardLog other = fresh();
        other.seal();
        other.seal();
        verifyOf(other);
        other.bend(13, 0);
        verifyOf(other);
        Checks.due("record before the bad one", 2, other.record(0, 0));
        Checks.due("record that is bad", -1, other.record(1, 0));
        other.seal();
        other.bend(13, 0);
        Checks.due("record not looked at again", -1, other.record(1, 0));
    }

    private static void bend() {
        ForwardLog log = fresh();
        Checks.dueThrow("bend of none", Checks.INDEX, () -> log.bend(0, 0));
        log.seal();
        log.sync();
        log.seal();
        int[] turned = {3, 0, 6, 10, 18, 34, 66, 130};
        for (int bit = 0; bit < 8; bit++) {
            Checks.due("bend bit " + bit, turned[bit], log.bend(0, bit));
            Checks.due("bent byte", turned[bit], log.octet(0));
            Checks.due("bend bit " + bit + " back", 2, log.bend(0, bit));
        }
        int last = log.octet(19);
        Checks.due("bend the last byte", last ^ 128, log.bend(19, 7));
        for (int place : new int[] {-1, 20, 1199, 1200, LOW, HIGH}) {
            Checks.dueThrow("bend " + place, Checks.INDEX, () -> log.bend(place, 0));
            Checks.dueThrow("bend " + place + " 8", Checks.INDEX, () -> log.bend(place, 8));
        }
        for (int bit : new int[] {-1, 8, 32, LOW, HIGH}) {
            Checks.dueThrow("bend 0 " + bit, Checks.ARGUMENT, () -> log.bend(0, bit));
        }
        Checks.due("bend: what throws changes nothing", 2, log.octet(0));
        dueCounts("bend", log, 20, 10, 2, 1, 0);
        log.crash(0);
        Checks.due("bend while down", 3, log.bend(0, 0));
        Checks.dueThrow("bend of a lost byte", Checks.INDEX, () -> log.bend(10, 0));
    }

    private static void octet() {
        ForwardLog log = fresh();
        Checks.due("octet of none", -1, log.octet(0));
        entry(log, 2, 254);
        int[] want = {1, 2, 254, 255};
        for (int k = 0; k < want.length; k++) {
            Checks.due("octet " + k, want[k], log.octet(k));
        }
        Checks.due("octet 11 is one", 1, log.octet(11) >= 0 ? 1 : 0);
        for (int k : new int[] {-1, 12, 1199, 1200, LOW, HIGH}) {
            Checks.due("octet " + k, -1, log.octet(k));
        }
        log.crash(3);
        Checks.due("octet kept", 254, log.octet(2));
        Checks.due("octet lost", -1, log.octet(3));
    }

    private static void key() {
        ForwardLog log = new ForwardLog();
        log.begin(0x80ff7f01, 2, 3, 0xfe);
        Checks.due("key 0", 128, log.key(0));
        Checks.due("key 1", 255, log.key(1));
        Checks.due("key 15", 254, log.key(15));
        for (int k : new int[] {-1, 16, LOW, HIGH}) {
            Checks.dueThrow("key " + k, Checks.ARGUMENT, () -> log.key(k));
        }
        log.begin(1, -2, 3, -4);
        for (int k = 1; k < 5; k++) {
            log.seal();
            dueKey("key turned " + k, keyAt(k), log);
        }
        log.crash(0);
        dueKey("key while down", keyAt(4), log);
        log.recover();
        dueKey("key behind the gap", keyAt(5), log);
    }

    private static void count() {
        ForwardLog log = fresh();
        entry(log, 7, 0);
        log.sync();
        log.seal();
        dueCounts("count", log, 27, 17, 2, 1, 0);
        Checks.due("count 5", 7, log.count(5));
        log.crash(4);
        dueCounts("count while down", log, 21, 17, 2, 0, 1);
        log.recover();
        dueCounts("count then", log, 29, 17, 3, 1, 1);
        for (int what : new int[] {-1, 6, LOW, HIGH}) {
            Checks.dueThrow("count " + what, Checks.ARGUMENT, () -> log.count(what));
        }
    }
}
