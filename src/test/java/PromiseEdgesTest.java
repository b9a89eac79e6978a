import java.util.Arrays;

/**
 * The edges that the promises name, a test for each sentence: the last input that is taken and the first that is
 * refused, the empty and the full case, and, for what is refused, that it changed nothing. What "Terms" says of
 * them is tested by TermsEdgesTest. No log is asked more than 512 times.
 */
final class PromiseEdgesTest extends Logs {
    private static final String ARGUMENT = "throws java.lang.IllegalArgumentException";
    private static final String STATE = "throws java.lang.IllegalStateException";
    private static final String INDEX = "throws java.lang.IndexOutOfBoundsException";
    private static final String FULL = "-2";
    private static final byte[] NO_TAG = new byte[8];

    private static final Twins.Use[] UP = {
        log -> { }, PromiseEdgesTest::use, PromiseEdgesTest::findBad, PromiseEdgesTest::leaveAGap,
        PromiseEdgesTest::fillAll
    };
    private static final Twins.Use[] DOWN = {
        log -> log.crash(0), PromiseEdgesTest::tear, PromiseEdgesTest::findNoRoom
    };

    private PromiseEdgesTest() {
    }

    public static void main(String[] args) {
        aNewObject();
        logsShareNothing();
        beginMakesAllNew();
        beginLeavesTheBuffer();
        beginTakesAnyNumbers();
        feedTakes0To16();
        feedTakesUpTo40();
        feedTakesTheFirstOfTheBytes();
        eraseOfNoneAndOfAll();
        appendOfNoneAndOfAll();
        appendIsFull();
        appendWhileDown();
        sealHasRoom();
        sealWhileDown();
        syncOfNoneAndOfAll();
        syncWhileDown();
        crashOfNoneAndOfAll();
        crashBelow0();
        crashOfADownWriter();
        recoverHasRoom();
        recoverHasNoRoom();
        recoverOfAFullDiskNeedsNoRoom();
        recoverWhileUp();
        verifyOfNoneAndOfAll();
        verifyByABentKey();
        told0To4();
        toldOfTheEdges();
        record0To42();
        recordOfItsLastByte();
        recordOfTheLastGoodOne();
        bendOfAByteThatIsThere();
        bendOfABit();
        octetOfAByteThatIsThere();
        keyOf0To15();
        count0To5();
        Checks.end();
    }

    private static void use(ForwardLog log) {
        log.begin(1, -2, 3, -4);
        entry(log, 3, 250);
        log.sync();
        log.seal();
        verifyOf(log);
        log.append();
    }

    private static void findBad(ForwardLog log) {
        use(log);
        log.bend(14, 0);
        verifyOf(log);
    }

    private static void tear(ForwardLog log) {
        use(log);
        log.crash(15);
    }

    private static void leaveAGap(ForwardLog log) {
        tear(log);
        log.recover();
        verifyOf(log);
    }

    /** Neither the disk nor the buffer has room then. */
    private static void fillAll(ForwardLog log) {
        log.begin(1, -2, 3, -4);
        write(log, 1200);
        fill(log, 40, 7);
        verifyOf(log);
    }

    /** The writer is down then, as its gap of 12 bytes has no room in the last 11. */
    private static void findNoRoom(ForwardLog log) {
        log.begin(1, -2, 3, -4);
        write(log, 1189);
        log.sync();
        log.seal();
        log.crash(7);
        log.recover();
        verifyOf(log);
    }

    private static void dueRefused(String what, String due, Twins.Use[] states, Twins.Ask call) {
        for (int k = 0; k < states.length; k++) {
            Twins.dueUnchanged(what + " in state " + k, due, states[k], call);
        }
    }

    private static void dueAlwaysRefused(String what, String due, Twins.Ask call) {
        dueRefused(what + ", up,", due, UP, call);
        dueRefused(what + ", down,", due, DOWN, call);
    }

    /** "KEY 0 of 0, an empty DISK, THE WRITER UP, an empty BUFFER" */
    private static void aNewObject() {
        Twins.dueSame("a new object", log -> { }, log -> log.begin(0, 0, 0, 0));
        ForwardLog log = new ForwardLog();
        dueCounts("a new object", log, 0, 0, 0, 1, 0);
        dueKey("a new object", new byte[16], log);
        Checks.due("octet 0", -1, log.octet(0));
        Checks.due("sync of a new one", 0, log.sync());
        Checks.due("erase of a new one", 0, log.erase());
        Checks.due("verify of a new one", 0, log.verify(0, 0, 0, 0));
        Checks.due("append on a new one", 0, log.append());
        byte[] first = Model.join(new byte[] {1, 0}, Model.tagOf(new byte[16], 0, 1, new byte[0], NO_TAG));
        dueBytes("its first record", first, diskOf(log));
        ForwardLog other = new ForwardLog();
        Checks.due("crash of a new one", 0, other.crash(HIGH));
        ForwardLog fed = new ForwardLog();
        Checks.due("feed a new one", 16, fed.feed(16, 1, 2, 3, 4));
    }

    private static void logsShareNothing() {
        ForwardLog one = new ForwardLog();
        ForwardLog other = new ForwardLog();
        use(other);
        fillAll(other);
        dueCounts("beside another one", one, 0, 0, 0, 1, 0);
        dueTold("beside another one", one, -1, -1, -1, -1, -1);
        Checks.due("append beside another one", 0, one.append());
        Checks.due("the other one", 24, verifyOf(other));
        Checks.due("its bytes", 1200, other.count(0));
    }

    /** "All begins anew": in each state, with what was verified, SYNCED or lost. */
    private static void beginMakesAllNew() {
        for (Twins.Use[] states : new Twins.Use[][] {UP, DOWN}) {
            for (int k = 0; k < states.length; k++) {
                Twins.Use state = states[k];
                Twins.Use again = log -> {
                    state.on(log);
                    log.erase();
                    log.begin(1, -2, 3, -4);
                };
                Twins.dueSame("begin in state " + k, again, log -> log.begin(1, -2, 3, -4));
            }
        }
    }

    /** "THE BUFFER stays": none, one, all of its bytes. */
    private static void beginLeavesTheBuffer() {
        for (int many : new int[] {0, 1, 39, 40}) {
            ForwardLog log = new ForwardLog();
            fill(log, many, 230);
            log.crash(0);
            log.begin(1, -2, 3, -4);
            Checks.due("buffer of " + many + " after begin", many, log.count(5));
            log.append();
            dueBytes("append of " + many, recordOf(0, 1, counting(many, 230), NO_TAG), diskOf(log));
        }
    }

    /** "four bytes in each number", the sign too */
    private static void beginTakesAnyNumbers() {
        int[] edges = {0, 1, -1, LOW, HIGH, 127, 128, 255, 256, 65535, 65536, 0x00ffffff, 0x01000000};
        for (int a : edges) {
            for (int b : edges) {
                ForwardLog log = new ForwardLog();
                log.begin(a, b, b, a);
                dueKey("begin " + a + " " + b, Model.keyOf(a, b, b, a), log);
                log.begin(b, a, 0, 1);
                dueKey("begin again " + a + " " + b, Model.keyOf(b, a, 0, 1), log);
            }
        }
    }

    /** "IllegalArgument: many is not 0 .. 16", also where there would be more than 40 */
    private static void feedTakes0To16() {
        for (int many = 0; many <= 16; many++) {
            ForwardLog log = fresh();
            Checks.due("feed " + many, many, log.feed(many, 1, 2, 3, 4));
            Checks.due("feed " + many + " more", 2 * many, log.feed(many, 1, 2, 3, 4));
        }
        for (int many : new int[] {LOW, LOW + 16, -16, -2, -1, 17, 18, 32, 40, 41, 256, 65536, HIGH - 40, HIGH}) {
            dueAlwaysRefused("feed " + many, ARGUMENT, log -> log.feed(many, -1, -1, -1, -1));
        }
    }

    /** "IllegalState: there would be more than 40" */
    private static void feedTakesUpTo40() {
        for (int had = 24; had <= 40; had++) {
            int before = had;
            int room = 40 - had;
            for (int many = room + 1; many <= 16; many++) {
                int over = many;
                ForwardLog refusing = filled(had);
                Checks.dueThrow("feed " + many + " to " + had, Checks.STATE, () -> refusing.feed(over, 0, 0, 0, 0));
            }
            ForwardLog log = filled(had);
            int all = log.feed(room, 0x01020304, 0x05060708, 0x090a0b0c, 0x0d0e0f10);
            Checks.due("feed " + room + " to " + had, 40, all);
            log.append();
            byte[] bytes = Model.join(counting(had, 100), counting(room, 1));
            dueBytes("40 bytes then", recordOf(0, 1, bytes, NO_TAG), diskOf(log));
            if (had > 24) {
                Twins.dueUnchanged("feed too many to " + had, STATE, state -> {
                    state.begin(1, -2, 3, -4);
                    fill(state, before, 100);
                }, state -> state.feed(room + 1, -1, -1, -1, -1));
            }
        }
        Twins.dueUnchanged("feed 1 on a full log", STATE, PromiseEdgesTest::fillAll, log -> log.feed(1, 9, 9, 9, 9));
        Twins.dueSame("feed 0 on a full log", log -> {
            fillAll(log);
            log.feed(0, 9, 9, 9, 9);
        }, PromiseEdgesTest::fillAll);
    }

    private static ForwardLog filled(int many) {
        ForwardLog log = fresh();
        fill(log, many, 100);
        return log;
    }

    /** "four in each number, the highest first, many of them": none of the others. */
    private static void feedTakesTheFirstOfTheBytes() {
        int[] numbers = {0x80ff7f01, 0xfffefdfc, 0x00010203, 0xf0e0d0c0};
        byte[] all = Model.keyOf(numbers[0], numbers[1], numbers[2], numbers[3]);
        for (int many = 0; many <= 16; many++) {
            ForwardLog log = fresh();
            log.feed(many, numbers[0], numbers[1], numbers[2], numbers[3]);
            log.feed(1, 0x55000000, -1, -1, -1);
            log.append();
            byte[] bytes = Model.join(Arrays.copyOf(all, many), new byte[] {0x55});
            dueBytes("feed " + many + " and one", recordOf(0, 1, bytes, NO_TAG), diskOf(log));
        }
    }

    /** "THE BUFFER is empty: how many bytes it had" */
    private static void eraseOfNoneAndOfAll() {
        for (int many : new int[] {0, 1, 16, 39, 40}) {
            ForwardLog log = filled(many);
            Checks.due("erase of " + many, many, log.erase());
            Checks.due("erase again", 0, log.erase());
            Checks.due("buffer then", 0, log.count(5));
            Checks.due("feed then", 16, log.feed(16, 0, 0, 0, 0));
            Checks.due("feed then", 32, log.feed(16, 0, 0, 0, 0));
            Checks.due("feed then", 40, log.feed(8, 0, 0, 0, 0));
            log.erase();
            log.append();
            dueBytes("append then", recordOf(0, 1, new byte[0], NO_TAG), diskOf(log));
        }
    }

    /** "THE BUFFER is written as an ENTRY, and stays: its INDEX" */
    private static void appendOfNoneAndOfAll() {
        for (int many : new int[] {0, 1, 39, 40}) {
            ForwardLog log = filled(many);
            Checks.due("append of " + many, 0, log.append());
            Checks.due("its buffer stays", many, log.count(5));
            Checks.due("append again", 1, log.append());
            byte[] first = recordOf(0, 1, counting(many, 100), NO_TAG);
            byte[] second = recordOf(1, 1, counting(many, 100), tagOf(first));
            dueBytes("both of " + many, Model.join(first, second), diskOf(log));
            dueCounts("both of " + many, log, 2 * many + 20, 0, 2, 1, 0);
            dueKey("both of " + many, keyAt(2), log);
        }
    }

    /** "or FULL": one byte less than the record takes is left. */
    private static void appendIsFull() {
        for (int many : new int[] {0, 1, 20, 39, 40}) {
            Twins.dueUnchanged("append of " + many + " without room", FULL, log -> {
                log.begin(1, -2, 3, -4);
                write(log, 1191 - many);
                log.sync();
                fill(log, many, 100);
            }, ForwardLog::append);
        }
        Twins.dueUnchanged("append on a full disk", FULL, PromiseEdgesTest::fillAll, ForwardLog::append);
        Twins.dueUnchanged("append of none on a full disk", FULL, log -> {
            fillAll(log);
            log.erase();
        }, ForwardLog::append);
        ForwardLog log = fresh();
        write(log, 1180);
        fill(log, 11, 0);
        Checks.due("append of 11 where 20 are left", -2, log.append());
        fill(log, 10, 0);
        Checks.due("append of 10 where 20 are left", log.count(2), log.append());
    }

    /** "IllegalState: THE WRITER is DOWN", with room and without */
    private static void appendWhileDown() {
        dueRefused("append while down", STATE, DOWN, ForwardLog::append);
        Twins.dueUnchanged("append while down and full", STATE, log -> {
            fillAll(log);
            log.crash(HIGH);
        }, ForwardLog::append);
    }

    /** "A SEAL is written: its INDEX; or FULL" */
    private static void sealHasRoom() {
        ForwardLog just = fresh();
        write(just, 1190);
        fill(just, 40, 0);
        Checks.due("seal where 10 are left", just.count(2), just.seal());
        Checks.due("bytes then", 1200, just.count(0));
        Checks.due("its buffer stays", 40, just.count(5));
        Checks.due("verify then", just.count(2), verifyOf(just));
        Checks.due("seal on a full disk", -2, just.seal());
        for (int left = 0; left < 10; left++) {
            int size = 1200 - left;
            Twins.dueUnchanged("seal where " + left + " are left", FULL, log -> {
                log.begin(1, -2, 3, -4);
                write(log, size);
                log.erase();
            }, ForwardLog::seal);
        }
    }

    /** "IllegalState: THE WRITER is DOWN", with room and without */
    private static void sealWhileDown() {
        dueRefused("seal while down", STATE, DOWN, ForwardLog::seal);
        Twins.dueUnchanged("seal while down and full", STATE, log -> {
            fillAll(log);
            log.crash(HIGH);
        }, ForwardLog::seal);
    }

    /** "All bytes of THE DISK are SYNCED: how many" */
    private static void syncOfNoneAndOfAll() {
        ForwardLog log = fresh();
        Checks.due("sync of none", 0, log.sync());
        log.seal();
        Checks.due("not synced yet", 0, log.count(1));
        Checks.due("sync of 10", 10, log.sync());
        Checks.due("sync again", 10, log.sync());
        Checks.due("synced", 10, log.count(1));
        for (int size : new int[] {1199, 1200}) {
            ForwardLog full = fresh();
            write(full, size);
            Checks.due("sync of " + size, size, full.sync());
            Checks.due("synced", size, full.count(1));
            Checks.due("crash then", 0, full.crash(0));
            Checks.due("bytes then", size, full.count(0));
        }
        ForwardLog gap = fresh();
        gap.seal();
        gap.crash(0);
        gap.recover();
        Checks.due("sync of a gap", 12, gap.sync());
        Checks.due("crash then", 0, gap.crash(0));
        Checks.due("recover then", 0, gap.recover());
    }

    /** "IllegalState: THE WRITER is DOWN", also with nothing that is not SYNCED */
    private static void syncWhileDown() {
        dueRefused("sync while down", STATE, DOWN, ForwardLog::sync);
        Twins.dueUnchanged("sync while down, all synced", STATE, log -> {
            fillAll(log);
            log.sync();
            log.crash(0);
        }, ForwardLog::sync);
    }

    /** "so many bytes behind the SYNCED ones being there still (at most those there are): how many are lost" */
    private static void crashOfNoneAndOfAll() {
        for (int keep : new int[] {0, 1, HIGH}) {
            Checks.due("crash of an empty disk", 0, fresh().crash(keep));
        }
        int[][] keeps = {
            {0, 1200}, {1, 1199}, {1199, 1}, {1200, 0}, {1201, 0}, {HIGH - 1199, 0}, {HIGH - 1, 0}, {HIGH, 0}
        };
        for (int[] keep : keeps) {
            ForwardLog log = fresh();
            write(log, 1200);
            Checks.due("crash " + keep[0] + " of 1200", keep[1], log.crash(keep[0]));
            dueCounts("crash " + keep[0], log, 1200 - keep[1], 0, 24, 0, 1);
        }
        int[][] less = {{0, 20}, {1, 19}, {19, 1}, {20, 0}, {21, 0}, {HIGH - 29, 0}, {HIGH - 9, 0}, {HIGH, 0}};
        for (int[] keep : less) {
            ForwardLog log = fresh();
            log.seal();
            log.sync();
            seals(log, 2);
            Checks.due("crash " + keep[0] + " of 20 and 10 synced", keep[1], log.crash(keep[0]));
            dueCounts("crash " + keep[0], log, 30 - keep[1], 10, 3, 0, 1);
        }
    }

    /** "IllegalArgument: below 0" */
    private static void crashBelow0() {
        for (int keep : new int[] {-1, -2, -1200, LOW + 1, LOW}) {
            dueAlwaysRefused("crash " + keep, ARGUMENT, log -> log.crash(keep));
        }
    }

    /** A writer that is DOWN may crash once more, and what is there gets no more by it. */
    private static void crashOfADownWriter() {
        for (int keep = 0; keep <= 6; keep++) {
            ForwardLog log = fresh();
            log.seal();
            log.sync();
            log.seal();
            log.crash(5);
            int kept = Math.min(5, keep);
            Checks.due("crash " + keep + " of 5", 5 - kept, log.crash(keep));
            dueCounts("crash " + keep + " of 5", log, 10 + kept, 10, 2, 0, 2);
            Checks.due("recover then", 1, log.recover());
        }
    }

    /** "RECOVERY: how many INDEXES were passed over": the gap's 12 bytes are just there. */
    private static void recoverHasRoom() {
        ForwardLog log = fresh();
        write(log, 1188);
        log.sync();
        int index = log.count(2);
        log.seal();
        log.crash(9);
        Checks.due("bytes, torn ones too", 1197, log.count(0));
        Checks.due("recover where 12 are left", 1, log.recover());
        dueCounts("recover where 12 are left", log, 1200, 1188, index + 2, 1, 1);
        Checks.due("verify then", index + 1, verifyOf(log));
        Checks.due("seal then", -2, log.seal());
        Checks.due("crash then", 12, log.crash(0));
        Checks.due("recover once more", 2, log.recover());
        dueCounts("recover once more", log, 1200, 1188, index + 3, 1, 2);
    }

    /** "or FULL: the GAP has no room (THE WRITER stays DOWN)" */
    private static void recoverHasNoRoom() {
        for (int left : new int[] {10, 11}) {
            for (int keep : new int[] {0, 1, 9}) {
                Twins.dueUnchanged("recover where " + left + " are left", FULL, log -> {
                    log.begin(1, -2, 3, -4);
                    write(log, 1200 - left);
                    log.sync();
                    log.seal();
                    log.crash(keep);
                }, ForwardLog::recover);
            }
        }
        ForwardLog log = fresh();
        findNoRoom(log);
        Checks.due("recover", -2, log.recover());
        Checks.due("down", 0, log.count(3));
        Checks.dueThrow("append then", Checks.STATE, log::append);
        Checks.dueThrow("seal then", Checks.STATE, log::seal);
        Checks.dueThrow("sync then", Checks.STATE, log::sync);
        Checks.due("crash then", 7, log.crash(0));
        Checks.due("recover once more", -2, log.recover());
        log.begin(1, -2, 3, -4);
        Checks.due("begin makes it up", 0, log.seal());
    }

    /** "(0: no GAP)": without one no room is needed. */
    private static void recoverOfAFullDiskNeedsNoRoom() {
        for (int size : new int[] {1189, 1190, 1199, 1200}) {
            ForwardLog log = fresh();
            write(log, size);
            int index = log.count(2);
            log.crash(HIGH);
            Checks.due("recover of " + size, 0, log.recover());
            dueCounts("recover of " + size, log, size, size, index, 1, 1);
            Checks.due("verify of " + size, index, verifyOf(log));
        }
        ForwardLog most = fresh();
        seals(most, 120);
        most.crash(HIGH);
        Checks.due("recover of 120 records", 0, most.recover());
        dueCounts("recover of 120 records", most, 1200, 1200, 120, 1, 1);
        most.bend(1190, 0);
        most.crash(0);
        Checks.due("recover of 119, without room", -2, most.recover());
        most.bend(1190, 0);
        Checks.due("recover of all, bent back", 0, most.recover());
        dueCounts("recover of all", most, 1200, 1200, 120, 1, 2);
    }

    /** "IllegalState: THE WRITER is UP", also behind a recovery */
    private static void recoverWhileUp() {
        dueRefused("recover while up", STATE, UP, ForwardLog::recover);
        Twins.dueUnchanged("recover again", STATE, log -> {
            fillAll(log);
            log.crash(HIGH);
            log.recover();
        }, ForwardLog::recover);
    }

    /** "how many RECORDS there are; or BAD" */
    private static void verifyOfNoneAndOfAll() {
        ForwardLog log = fresh();
        Checks.due("verify of none", 0, verifyOf(log));
        Checks.due("verify of none by any key", 0, log.verify(LOW, HIGH, 0, -1));
        seals(log, 119);
        Checks.due("verify of 119", 119, verifyOf(log));
        log.seal();
        Checks.due("verify of 120", 120, verifyOf(log));
        dueTold("verify of 120", log, -1, -1, 120, 1, 0);
        dueCounts("verify of 120", log, 1200, 0, 120, 1, 0);
        log.bend(1199, 0);
        Checks.due("verify, the last byte bent", -3, verifyOf(log));
        dueTold("the last byte bent", log, 119, 1190, 119, 1, 0);
        log.bend(0, 0);
        Checks.due("verify, the first byte bent", -3, verifyOf(log));
        dueTold("the first byte bent", log, 0, 0, 0, 0, 0);
    }

    /** "by a KEY 0": another one in any bit is BAD. */
    private static void verifyByABentKey() {
        ForwardLog log = fresh();
        log.seal();
        for (int bit = 0; bit < 32; bit++) {
            int turned = 1 << bit;
            Checks.due("verify, a bent in " + bit, -3, log.verify(1 ^ turned, -2, 3, -4));
            Checks.due("verify, b bent in " + bit, -3, log.verify(1, -2 ^ turned, 3, -4));
            Checks.due("verify, c bent in " + bit, -3, log.verify(1, -2, 3 ^ turned, -4));
            Checks.due("verify, d bent in " + bit, -3, log.verify(1, -2, 3, -4 ^ turned));
        }
        Checks.due("verify by KEY 0 itself", 1, verifyOf(log));
    }

    /** "IllegalArgument" of told, before a verifying too */
    private static void told0To4() {
        for (int what : new int[] {LOW, -1, 5, 6, HIGH}) {
            dueAlwaysRefused("told " + what, ARGUMENT, log -> log.told(what));
        }
        ForwardLog log = fresh();
        dueTold("before a verifying", log, -1, -1, -1, -1, -1);
        verifyOf(log);
        dueTold("of an empty disk", log, -1, -1, 0, 0, 0);
        log.begin(1, -2, 3, -4);
        dueTold("before one since begin", log, -1, -1, -1, -1, -1);
    }

    /** "whether the last good one is a SEAL (1 or 0)", "INDEXES passed over in GAPS that were good" */
    private static void toldOfTheEdges() {
        ForwardLog log = fresh();
        log.seal();
        entry(log, 0, 0);
        log.crash(10);
        Checks.due("a gap over the entry", 1, log.recover());
        log.seal();
        verifyOf(log);
        dueTold("seal, gap, seal", log, -1, -1, 3, 1, 1);
        log.bend(31, 0);
        verifyOf(log);
        dueTold("seal, gap, bent seal", log, 2, 22, 2, 0, 1);
        log.bend(21, 0);
        verifyOf(log);
        dueTold("seal, bent gap", log, 1, 10, 1, 1, 0);
        log.bend(9, 0);
        verifyOf(log);
        dueTold("bent seal", log, 0, 0, 0, 0, 0);
    }

    /** "IllegalArgument: not 0 .. 42", whether there is such a RECORD or not */
    private static void record0To42() {
        for (int what : new int[] {LOW, -1, 43, 44, HIGH}) {
            dueAlwaysRefused("record 0 " + what, ARGUMENT, log -> log.record(0, what));
            dueAlwaysRefused("record -1 " + what, ARGUMENT, log -> log.record(-1, what));
            dueAlwaysRefused("record 120 " + what, ARGUMENT, log -> log.record(120, what));
        }
        ForwardLog log = fresh();
        for (int what = 0; what <= 42; what++) {
            Checks.due("record 0 " + what + " before a verifying", -1, log.record(0, what));
        }
    }

    /** "3 + k byte k of it; NONE if there is none such" */
    private static void recordOfItsLastByte() {
        for (int many : new int[] {0, 1, 2, 39, 40}) {
            ForwardLog log = fresh();
            entry(log, many, 220);
            log.seal();
            verifyOf(log);
            Checks.due("kind of " + many, 1, log.record(0, 0));
            Checks.due("index of " + many, 0, log.record(0, 1));
            Checks.due("length of " + many, many, log.record(0, 2));
            for (int k = 0; k < 40; k++) {
                Checks.due("byte " + k + " of " + many, k < many ? 220 + k & 255 : -1, log.record(0, 3 + k));
                Checks.due("byte " + k + " of a seal", -1, log.record(1, 3 + k));
            }
            Checks.due("length of a seal", 0, log.record(1, 2));
        }
        ForwardLog log = fresh();
        lose(log, 300);
        log.recover();
        verifyOf(log);
        int[] want = {3, 300, 2, 1, 44, -1};
        for (int what = 0; what < want.length; what++) {
            Checks.due("a gap's " + what, want[what], log.record(0, what));
        }
        Checks.due("a gap's 42", -1, log.record(0, 42));
    }

    /** "Of a RECORD that the last VERIFYING found good" */
    private static void recordOfTheLastGoodOne() {
        ForwardLog log = fresh();
        verifyOf(log);
        Checks.due("record 0 of an empty disk", -1, log.record(0, 0));
        seals(log, 3);
        Checks.due("record 0 that no verifying saw", -1, log.record(0, 0));
        verifyOf(log);
        int[] rows = {LOW, LOW + 1, -2, -1, 3, 4, 119, 120, 121, 1199, 1200, HIGH - 1, HIGH};
        for (int row : rows) {
            for (int what = 0; what < 4; what++) {
                Checks.due("record " + row + " " + what + " of three", -1, log.record(row, what));
            }
        }
        Checks.due("record 2 of three", 2, log.record(2, 1));
        log.bend(29, 0);
        verifyOf(log);
        Checks.due("record 1 of two good ones", 1, log.record(1, 1));
        Checks.due("record 2 that is bad", -1, log.record(2, 0));
        log.verify(0, 0, 0, 0);
        Checks.due("record 0 that is bad", -1, log.record(0, 0));
        ForwardLog full = fresh();
        seals(full, 120);
        verifyOf(full);
        Checks.due("record 119 of 120", 119, full.record(119, 1));
        Checks.due("record 120 of 120", -1, full.record(120, 1));
    }

    /** "IndexOutOfBounds: there is no such byte" */
    private static void bendOfAByteThatIsThere() {
        for (int place : new int[] {LOW, -1200, -1, 1200, 1201, HIGH}) {
            dueAlwaysRefused("bend " + place, INDEX, log -> log.bend(place, 0));
        }
        dueAlwaysRefused("bend behind the last byte", INDEX, log -> log.bend(log.count(0), 7));
        for (int size : new int[] {10, 1199, 1200}) {
            ForwardLog log = fresh();
            write(log, size);
            int first = log.octet(0);
            int last = log.octet(size - 1);
            Checks.due("bend the first of " + size, first ^ 1, log.bend(0, 0));
            Checks.due("bend the last of " + size, last ^ 128, log.bend(size - 1, 7));
            Checks.due("the first byte", first ^ 1, log.octet(0));
            Checks.due("the last byte", last ^ 128, log.octet(size - 1));
            Checks.dueThrow("bend behind the last of " + size, Checks.INDEX, () -> log.bend(size, 0));
        }
        ForwardLog log = fresh();
        Checks.dueThrow("bend of an empty disk", Checks.INDEX, () -> log.bend(0, 0));
        seals(log, 2);
        log.crash(5);
        Checks.due("bend the last byte that is left", log.octet(4) ^ 8, log.bend(4, 3));
        Checks.dueThrow("bend the first that is lost", Checks.INDEX, () -> log.bend(5, 3));
    }

    /** "IllegalArgument: another bit" than 0 .. 7 */
    private static void bendOfABit() {
        for (int bit : new int[] {LOW, -8, -1, 8, 9, 31, 32, 33, HIGH}) {
            for (Twins.Use state : new Twins.Use[] {UP[1], UP[2], UP[3], UP[4], DOWN[1], DOWN[2]}) {
                Twins.dueUnchanged("bend 0 " + bit, ARGUMENT, state, log -> log.bend(0, bit));
            }
        }
        for (int start : new int[] {0, 255}) {
            ForwardLog log = fresh();
            log.feed(1, start << 24, 0, 0, 0);
            log.append();
            for (int bit = 0; bit < 8; bit++) {
                Checks.due("bend " + start + " in " + bit, start ^ 1 << bit, log.bend(2, bit));
                Checks.due("and back", start, log.bend(2, bit));
            }
        }
    }

    /** "Byte k of THE DISK; NONE" */
    private static void octetOfAByteThatIsThere() {
        for (int size : new int[] {10, 1199, 1200}) {
            ForwardLog log = fresh();
            write(log, size);
            Checks.due("octet 0 of " + size, 1, log.octet(0));
            Checks.due("the last octet is one", 1, log.octet(size - 1) >= 0 && log.octet(size - 1) < 256 ? 1 : 0);
            for (int k : new int[] {LOW, -1, size, size + 1, 1200, 1201, HIGH}) {
                Checks.due("octet " + k + " of " + size, -1, log.octet(k));
            }
        }
        ForwardLog log = fresh();
        Checks.due("octet 0 of none", -1, log.octet(0));
        entry(log, 4, 126);
        byte[] want = Model.join(new byte[] {1, 4}, counting(4, 126));
        for (int k = 0; k < want.length; k++) {
            Checks.due("octet " + k, want[k] & 255, log.octet(k));
        }
    }

    /** "Byte k, 0 .. 15"; "IllegalArgument" */
    private static void keyOf0To15() {
        for (int k : new int[] {LOW, -1, 16, 17, HIGH}) {
            dueAlwaysRefused("key " + k, ARGUMENT, log -> log.key(k));
        }
        ForwardLog log = new ForwardLog();
        log.begin(0x80ff7f01, 0xfffefdfc, 0x00010203, 0xf0e0d0c0);
        int[] want = {128, 255, 127, 1, 255, 254, 253, 252, 0, 1, 2, 3, 240, 224, 208, 192};
        for (int k = 0; k < 16; k++) {
            Checks.due("key " + k, want[k], log.key(k));
        }
    }

    /** "IllegalArgument" of count */
    private static void count0To5() {
        for (int what : new int[] {LOW, -1, 6, 7, HIGH}) {
            dueAlwaysRefused("count " + what, ARGUMENT, log -> log.count(what));
        }
        ForwardLog log = new ForwardLog();
        for (int what = 0; what < 6; what++) {
            Checks.due("count " + what + " of a new one", what == 3 ? 1 : 0, log.count(what));
        }
        fillAll(log);
        log.sync();
        int[] want = {1200, 1200, 24, 1, 0, 40};
        for (int what = 0; what < 6; what++) {
            Checks.due("count " + what + " of a full one", want[what], log.count(what));
        }
        log.crash(0);
        Checks.due("count 3 while down", 0, log.count(3));
        Checks.due("count 4 after one", 1, log.count(4));
    }
}
