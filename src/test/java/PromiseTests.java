// Each promise of the document: ordinary inputs, its edges, and wrong inputs.
// No object here is used for more than 512 calls: behind them the answers are free.
public final class PromiseTests {
    private static final int[] WRONG_ACTORS = {-1, 8, 9, 255, 256, -8, Integer.MIN_VALUE, Integer.MAX_VALUE};
    private static final int[] WRONG_SEQS = {0, -1, 256, 257, 511, -255, Integer.MIN_VALUE, Integer.MAX_VALUE};

    private static final int[] SOME_SEQS = {1, 2, 3, 255};

    private static final long ILLEGAL_ARGUMENT = Long.MIN_VALUE;
    private static final long ILLEGAL_STATE = Long.MIN_VALUE + 1;
    private static final long OUT_OF_BOUNDS = Long.MIN_VALUE + 2;

    private static int wrong = 0;

    public static void main(String[] args) {
        newObject();
        clear();
        offerOrdinary();
        offerOrder();
        offerEdges();
        offerWrongInputs();
        offerWhenFull();
        known();
        clock();
        through();
        throughHoldsAllCalls();
        waiting();
        waitingLacks();
        ahead();
        next();
        compare();
        forget();
        look();
        constants();
        System.out.println(wrong == 0 ? "all answers are as due" : wrong + " answers are not as due");
        if (wrong != 0) {
            System.exit(1);
        }
    }

    private static void newObject() {
        dueFresh("a new object", new CausalGate());
        CausalGate first = new CausalGate();
        first.offer(0, 1, 0L, 1);
        first.offer(1, 2, 0L, 1);
        dueFresh("a new object beside a used one", new CausalGate());
    }

    private static void clear() {
        CausalGate gate = new CausalGate();
        gate.offer(0, 1, 0L, 10);
        gate.offer(0, 1, 0L, 11);
        gate.offer(3, 2, 0L, 12);
        gate.offer(7, 1, bytes(0, 0, 0, 9, 0, 0, 0, 0), 13);
        gate.clear();
        dueFresh("behind clear", gate);
        due("clear: offer of a change that had come", gate.offer(0, 1, 0L, 20), 1);
        due("clear: its label is the new one", through(gate, 0, 2), 20);
        due("clear: offer of a change that had waited", gate.offer(3, 2, 0L, 21), 0);
        due("clear: nothing counts as known", gate.look(2), 0);
        gate.clear();
        gate.clear();
        dueFresh("behind clear twice", gate);
    }

    private static void dueFresh(String where, CausalGate gate) {
        due(where + ": clock()", gate.clock(), 0L);
        for (int which = 0; which < 4; which++) {
            due(where + ": look(" + which + ")", gate.look(which), 0);
        }
        due(where + ": through(0, 0)", through(gate, 0, 0), OUT_OF_BOUNDS);
        due(where + ": waiting(0, 0)", waiting(gate, 0, 0), OUT_OF_BOUNDS);
        due(where + ": ahead(0)", gate.ahead(0L), 0);
        due(where + ": next(0, NONE)", gate.next(0L, -1), -1);
        due(where + ": compare(0)", gate.compare(0L), 0);
        for (int actor = 0; actor < 8; actor++) {
            due(where + ": forget", gate.forget(actor), 0);
            for (int seq : SOME_SEQS) {
                due(where + ": known(" + actor + ", " + seq + ")", bit(gate.known(actor, seq)), 0);
            }
        }
    }

    private static void offerOrdinary() {
        CausalGate gate = new CausalGate();
        due("offer: the first comes at once", gate.offer(4, 1, 0L, 100), 1);
        due("offer: a gap waits", gate.offer(4, 3, 0L, 300), 0);
        due("offer: it and the one that waited come", gate.offer(4, 2, 0L, 200), 2);
        due("offer: one that came is known", gate.offer(4, 2, 0L, 201), 0);
        due("offer: the label stays", through(gate, 1, 2), 200);
        due("offer: one that hangs on another waits", gate.offer(1, 1, bytes(0, 0, 0, 0, 0, 1, 0, 0), 5), 0);
        due("offer: one that waits is known", gate.offer(1, 1, 0L, 6), 0);
        due("offer: a known one's clock counts for nothing", gate.look(1), 1);
        due("offer: what it hung on comes", gate.offer(5, 1, 0L, 7), 2);
        due("offer: the label of the first offer", through(gate, 4, 2), 5);
        due("offer: known ones are counted", gate.look(2), 2);
    }

    private static void offerOrder() {
        CausalGate gate = new CausalGate();
        long hangsOnThree = bytes(0, 0, 0, 1, 0, 0, 0, 0);
        for (int actor = 7; actor >= 0; actor--) {
            if (actor != 3) {
                gate.offer(actor, 1, hangsOnThree, actor);
                gate.offer(actor, 2, 0L, actor + 10);
            }
        }
        gate.offer(3, 2, bytes(0, 1, 0, 0, 0, 0, 0, 0), 13);
        due("offer: all come", gate.offer(3, 1, 0L, 3), 16);
        // After each that comes the least actor is looked for anew, so 3's second goes before 4's first.
        int[] labels = {3, 0, 10, 1, 11, 2, 12, 13, 4, 14, 5, 15, 6, 16, 7, 17};
        for (int i = 0; i < labels.length; i++) {
            due("offer: order, place " + i, through(gate, i, 2), labels[i]);
        }

        CausalGate back = new CausalGate();
        back.offer(6, 2, 0L, 62);
        back.offer(2, 1, bytes(0, 0, 0, 0, 0, 0, 1, 0), 21);
        due("offer: a lesser actor set free goes first", back.offer(6, 1, 0L, 61), 3);
        due("offer: first", through(back, 0, 2), 61);
        due("offer: then the lesser actor", through(back, 1, 2), 21);
        due("offer: then the greater", through(back, 2, 2), 62);
    }

    private static void offerEdges() {
        CausalGate gate = new CausalGate();
        due("offer: its own byte counts for nothing", gate.offer(7, 1, 0xFF00000000000000L, 1), 1);
        due("offer: nor actor 0's own", gate.offer(0, 1, 255L, 2), 1);
        due("offer: every other byte counts", gate.offer(0, 2, bytes(0, 0, 0, 0, 0, 0, 0, 2), 3), 0);
        due("offer: a byte that is reached is enough", gate.offer(7, 2, bytes(1, 0, 0, 0, 0, 0, 0, 0), 4), 2);
        CausalGate long7 = new CausalGate();
        for (int seq = 1; seq <= 255; seq++) {
            due("offer: SEQ " + seq + " of 7", long7.offer(7, seq, 0L, seq), 1);
        }
        due("offer: a clock of 255", long7.offer(0, 1, bytes(0, 0, 0, 0, 0, 0, 0, 255), 0), 1);
        due("offer: the last SEQ is known", long7.offer(7, 255, 0L, 0), 0);
        due("offer: clock behind it", long7.clock(), 0xFF00000000000001L);
        CausalGate pair = new CausalGate();
        due("offer: two that hang on one another", pair.offer(0, 1, bytes(0, 1, 0, 0, 0, 0, 0, 0), 1), 0);
        due("offer: wait for ever", pair.offer(1, 1, bytes(1, 0, 0, 0, 0, 0, 0, 0), 2), 0);
        due("offer: both wait", pair.look(1), 2);
        due("offer: any label", pair.offer(2, 1, 0L, Integer.MIN_VALUE), 1);
        due("offer: any label is told", through(pair, 0, 2), Integer.MIN_VALUE);
    }

    private static void offerWrongInputs() {
        CausalGate gate = new CausalGate();
        gate.offer(0, 1, 0L, 1);
        gate.offer(0, 3, 0L, 3);
        for (int actor : WRONG_ACTORS) {
            due("offer: actor " + actor, offer(gate, actor, 1, 0L, 1), ILLEGAL_ARGUMENT);
            due("offer: actor " + actor + " and a wrong seq", offer(gate, actor, 0, 0L, 1), ILLEGAL_ARGUMENT);
        }
        for (int seq : WRONG_SEQS) {
            due("offer: seq " + seq, offer(gate, 0, seq, 0L, 1), ILLEGAL_ARGUMENT);
        }
        due("offer: what throws changes no clock", gate.clock(), 1L);
        due("offer: .. nothing that came", gate.look(0), 1);
        due("offer: .. nothing that waits", gate.look(1), 1);
        due("offer: .. no count of known ones", gate.look(2), 0);
        due("offer: .. nor the most that waited", gate.look(3), 1);
    }

    private static void offerWhenFull() {
        CausalGate gate = full();
        due("full: 64 wait", gate.look(1), 64);
        due("full: a 65th", offer(gate, 0, 66, 0L, 1), ILLEGAL_STATE);
        due("full: a 65th of another actor", offer(gate, 1, 2, 0L, 1), ILLEGAL_STATE);
        due("full: a 65th that hangs on another", offer(gate, 1, 1, 1L, 1), ILLEGAL_STATE);
        due("full: a wrong actor goes before", offer(gate, 8, 1, 0L, 1), ILLEGAL_ARGUMENT);
        due("full: a wrong seq goes before", offer(gate, 0, 256, 0L, 1), ILLEGAL_ARGUMENT);
        due("full: what throws is not known", bit(gate.known(0, 66)), 0);
        due("full: nothing changed", gate.look(1), 64);
        due("full: no known one counted", gate.look(2), 0);
        due("full: 64 is the most", gate.look(3), 64);
        due("full: a known one", offer(gate, 0, 65, 0L, 1), 0);
        due("full: is counted", gate.look(2), 1);
        due("full: one that comes through alone", offer(gate, 1, 1, 0L, 1), 1);
        due("full: 64 still wait", gate.look(1), 64);
        due("full: still 64 at most", gate.look(3), 64);
        due("full: a known one that came", offer(gate, 1, 1, 0L, 1), 0);
        due("full: the one they waited for", offer(gate, 0, 1, 0L, 1), 65);
        due("full: none waits then", gate.look(1), 0);
        due("full: clock", gate.clock(), 0x0141L);
        for (int i = 1; i < 66; i++) {
            due("full: place " + i, through(gate, i, 1), i);
        }

        CausalGate ends = full();
        due("full: one less after forget", ends.forget(0), 64);
        due("full: then one may wait", offer(ends, 0, 66, 0L, 1), 0);
    }

    private static CausalGate full() {
        CausalGate gate = new CausalGate();
        for (int seq = 65; seq >= 2; seq--) {
            gate.offer(0, seq, 0L, seq);
        }
        return gate;
    }

    private static void known() {
        CausalGate gate = new CausalGate();
        gate.offer(2, 1, 0L, 1);
        gate.offer(2, 2, 0L, 1);
        gate.offer(2, 5, 0L, 1);
        int[] seqs = {1, 2, 5};
        for (int seq = 1; seq < 256; seq++) {
            boolean is = false;
            for (int one : seqs) {
                is = is || one == seq;
            }
            due("known(2, " + seq + ")", bit(gate.known(2, seq)), bit(is));
        }
        for (int seq : SOME_SEQS) {
            due("known(3, " + seq + ")", bit(gate.known(3, seq)), 0);
            due("known(1, " + seq + ")", bit(gate.known(1, seq)), 0);
        }
        CausalGate each = new CausalGate();
        for (int actor = 0; actor < 8; actor++) {
            each.offer(actor, 1, 0L, 1);
        }
        for (int actor : WRONG_ACTORS) {
            due("known(" + actor + ", 1)", bit(each.known(actor, 1)), 0);
        }
        for (int seq : WRONG_SEQS) {
            due("known(2, " + seq + ")", bit(gate.known(2, seq)), 0);
        }
        due("known counts no offer", gate.look(2), 0);
        gate.forget(2);
        due("known: what is forgotten is not", bit(gate.known(2, 5)), 0);
        due("known: what came through is still", bit(gate.known(2, 2)), 1);
    }

    private static void clock() {
        CausalGate gate = new CausalGate();
        for (int actor = 0; actor < 8; actor++) {
            for (int seq = 1; seq <= actor + 1; seq++) {
                gate.offer(actor, seq, 0L, 0);
            }
        }
        due("clock()", gate.clock(), 0x0807060504030201L);
        gate.offer(0, 9, 0L, 0);
        due("clock() with one that waits", gate.clock(), 0x0807060504030201L);
        CausalGate high = new CausalGate();
        for (int seq = 1; seq <= 255; seq++) {
            high.offer(1, seq, 0L, 0);
        }
        due("clock() at 255 carries nothing", high.clock(), 0xFF00L);
    }

    private static void through() {
        CausalGate gate = new CausalGate();
        gate.offer(5, 2, 0L, -7);
        due("through: one that waits is none", through(gate, 0, 0), OUT_OF_BOUNDS);
        gate.offer(5, 1, 0L, Integer.MAX_VALUE);
        long[][] rows = {{5, 1, Integer.MAX_VALUE}, {5, 2, -7}};
        for (int i = 0; i < 2; i++) {
            for (int what = 0; what < 3; what++) {
                due("through(" + i + ", " + what + ")", through(gate, i, what), rows[i][what]);
            }
        }
        int[] none = {2, 3, 511, 512, -1, Integer.MIN_VALUE, Integer.MAX_VALUE};
        for (int i : none) {
            for (int what = -1; what < 4; what++) {
                due("through(" + i + ", " + what + ")", through(gate, i, what), OUT_OF_BOUNDS);
            }
        }
        int[] noWhat = {-1, 3, 4, Integer.MIN_VALUE, Integer.MAX_VALUE};
        for (int what : noWhat) {
            due("through(0, " + what + ")", through(gate, 0, what), OUT_OF_BOUNDS);
        }
    }

    private static void throughHoldsAllCalls() {
        CausalGate spread = new CausalGate();
        for (int call = 0; call < 511; call++) {
            due("511 offers: " + call, offer(spread, call % 8, call / 8 + 1, 0L, call), 1);
        }
        due("511 offers: the last of them", through(spread, 510, 2), 510);

        CausalGate all = new CausalGate();
        for (int call = 0; call < 512; call++) {
            due("512 offers: " + call, offer(all, call / 255, call % 255 + 1, 0L, call), 1);
        }
    }

    private static void waiting() {
        CausalGate gate = new CausalGate();
        gate.offer(6, 3, 0L, 63);
        gate.offer(1, 200, 0L, 1200);
        gate.offer(6, 2, 0L, 62);
        gate.offer(1, 3, 0L, 13);
        gate.offer(0, 255, 0L, -255);
        long[][] rows = {
            {0, 255, -255, 0, 1}, {1, 3, 13, 1, 1}, {1, 200, 1200, 1, 1}, {6, 2, 62, 6, 1}, {6, 3, 63, 6, 1}
        };
        dueWaiting("waiting", gate, rows);
        int[] none = {5, 63, 64, 65, -1, Integer.MIN_VALUE, Integer.MAX_VALUE};
        for (int i : none) {
            for (int what = -1; what < 6; what++) {
                due("waiting(" + i + ", " + what + ")", waiting(gate, i, what), OUT_OF_BOUNDS);
            }
        }
        int[] noWhat = {-1, 5, 6, Integer.MIN_VALUE, Integer.MAX_VALUE};
        for (int what : noWhat) {
            due("waiting(0, " + what + ")", waiting(gate, 0, what), OUT_OF_BOUNDS);
        }
        gate.offer(6, 1, 0L, 61);
        dueWaiting("waiting, some gone", gate, new long[][] {rows[0], rows[1], rows[2]});
    }

    private static void waitingLacks() {
        CausalGate gate = new CausalGate();
        gate.offer(2, 1, 0L, 0);
        gate.offer(3, 1, 0L, 0);
        gate.offer(3, 2, 0L, 0);
        gate.offer(2, 2, bytes(0, 0, 255, 5, 0, 0, 0, 9), 1);
        gate.offer(2, 4, bytes(9, 9, 9, 9, 9, 9, 9, 9), 2);
        gate.offer(4, 1, bytes(0, 0, 1, 2, 255, 0, 0, 1), 3);
        gate.offer(5, 1, bytes(0, 3, 2, 0, 0, 0, 0, 0), 4);
        dueWaiting("lacks", gate, new long[][] {
            {2, 2, 1, 3, 3}, {2, 4, 2, 2, 2}, {4, 1, 3, 7, 1}, {5, 1, 4, 1, 1}
        });
        gate.offer(1, 1, 0L, 0);
        gate.offer(7, 1, bytes(0, 0, 0, 0, 1, 0, 0, 0), 5);
        dueWaiting("lacks, moved on", gate, new long[][] {
            {2, 2, 1, 3, 3}, {2, 4, 2, 2, 2}, {4, 1, 3, 7, 1}, {5, 1, 4, 1, 2}, {7, 1, 5, 4, 1}
        });
    }

    private static void dueWaiting(String where, CausalGate gate, long[][] rows) {
        due(where + ": how many", gate.look(1), rows.length);
        for (int i = 0; i < rows.length; i++) {
            for (int what = 0; what < 5; what++) {
                due(where + ": waiting(" + i + ", " + what + ")", waiting(gate, i, what), rows[i][what]);
            }
        }
    }

    // Came through: 0:1, 7:1, 0:2, 3:1, 7:2; 1:2 waits.
    private static CausalGate five() {
        CausalGate gate = new CausalGate();
        gate.offer(0, 1, 0L, 0);
        gate.offer(7, 1, 0L, 1);
        gate.offer(0, 2, 0L, 2);
        gate.offer(3, 1, 0L, 3);
        gate.offer(7, 2, 0L, 4);
        gate.offer(1, 2, 0L, 5);
        return gate;
    }

    private static void ahead() {
        CausalGate gate = five();
        due("ahead of nothing", gate.ahead(0L), 5);
        due("ahead of itself", gate.ahead(gate.clock()), 0);
        due("ahead of all", gate.ahead(-1L), 0);
        due("ahead of more of another", gate.ahead(bytes(0, 255, 0, 0, 0, 0, 0, 0)), 5);
        due("ahead: more of one makes up for none", gate.ahead(bytes(9, 0, 0, 0, 0, 0, 0, 1)), 2);
        due("ahead: a byte is never below 0", gate.ahead(bytes(0, 0, 0, 0, 0, 0, 0, 255)), 3);
    }

    private static void next() {
        CausalGate gate = five();
        due("next of all", gate.next(0L, CausalGate.NONE), 0);
        for (int i = 0; i < 4; i++) {
            due("next behind " + i, gate.next(0L, i), i + 1);
        }
        int[] behind = {4, 5, 6, 511, 512, Integer.MAX_VALUE - 1, Integer.MAX_VALUE};
        for (int i : behind) {
            due("next behind " + i, gate.next(0L, i), -1);
        }
        int[] before = {-2, -5, Integer.MIN_VALUE, Integer.MIN_VALUE + 1};
        for (int i : before) {
            due("next behind " + i, gate.next(0L, i), 0);
        }
        long one = bytes(1, 0, 0, 1, 0, 0, 0, 1);
        due("next skips what it has", gate.next(one, -1), 2);
        due("next skips again", gate.next(one, 2), 4);
        due("next: then none", gate.next(one, 4), -1);
        due("next with all", gate.next(-1L, -1), -1);
        due("next with the gate's clock", gate.next(gate.clock(), -1), -1);
    }

    private static void compare() {
        CausalGate gate = five();
        long own = bytes(2, 0, 0, 1, 0, 0, 0, 2);
        due("compare: the same", gate.compare(own), 0);
        due("compare with nothing", gate.compare(0L), 1);
        due("compare with all", gate.compare(-1L), 2);
        for (int actor = 0; actor < 8; actor++) {
            due("compare: more of " + actor, gate.compare(own + (1L << 8 * actor)), 2);
        }
        due("compare: less of 0", gate.compare(own - 1L), 1);
        due("compare: less of 7", gate.compare(own - (1L << 56)), 1);
        due("compare: less of 0, more of 7", gate.compare(own - 1L + (1L << 56)), 3);
        due("compare: more of 0, less of 7", gate.compare(own + 1L - (1L << 56)), 3);
        due("compare: bytes have no sign", gate.compare(bytes(2, 0, 0, 1, 0, 0, 0, 200)), 2);
    }

    private static void forget() {
        CausalGate gate = new CausalGate();
        gate.offer(2, 1, 0L, 21);
        gate.offer(1, 2, 0L, 12);
        gate.offer(2, 3, 0L, 23);
        gate.offer(2, 4, bytes(9, 0, 0, 0, 0, 0, 0, 0), 24);
        gate.offer(3, 1, bytes(0, 0, 3, 0, 0, 0, 0, 0), 31);
        for (int actor : WRONG_ACTORS) {
            due("forget(" + actor + ")", gate.forget(actor), 0);
        }
        due("forget: one without any", gate.forget(0), 0);
        due("forget: nothing is gone", gate.look(1), 4);
        due("forget(2)", gate.forget(2), 2);
        due("forget(2) again", gate.forget(2), 0);
        dueWaiting("forget", gate, new long[][] {{1, 2, 12, 1, 1}, {3, 1, 31, 2, 2}});
        due("forget: what came through stays", gate.look(0), 1);
        due("forget: and the clock", gate.clock(), 0x010000L);
        due("forget: the most that waited stays", gate.look(3), 4);
        due("forget: it may be offered again", gate.offer(2, 3, 0L, 123), 0);
        due("forget: and comes with its new label", gate.offer(2, 2, 0L, 22), 3);
        due("forget: label", through(gate, 2, 2), 123);
        due("forget: no known ones", gate.look(2), 0);
    }

    private static void look() {
        CausalGate gate = new CausalGate();
        gate.offer(0, 2, 0L, 0);
        gate.offer(0, 3, 0L, 0);
        gate.offer(0, 3, 0L, 0);
        dueLook("look, two wait", gate, 0, 2, 1, 2);
        gate.offer(0, 1, 0L, 0);
        dueLook("look, all came; the most is taken behind the offer", gate, 3, 0, 1, 2);
        gate.offer(0, 1, 0L, 0);
        gate.offer(1, 1, 0L, 0);
        gate.offer(4, 9, 0L, 0);
        dueLook("look, one waits", gate, 4, 1, 2, 2);
        gate.forget(4);
        dueLook("look, none waits", gate, 4, 0, 2, 2);
        CausalGate single = new CausalGate();
        single.offer(0, 1, 0L, 0);
        dueLook("look, one that never waited behind an offer", single, 1, 0, 0, 0);
        int[] others = {-1, 4, 5, -2, Integer.MIN_VALUE, Integer.MAX_VALUE};
        for (int which : others) {
            due("look(" + which + ")", gate.look(which), -1);
        }
    }

    private static void dueLook(String where, CausalGate gate, int came, int wait, int known, int most) {
        due(where + ": look(0)", gate.look(0), came);
        due(where + ": look(1)", gate.look(1), wait);
        due(where + ": look(2)", gate.look(2), known);
        due(where + ": look(3)", gate.look(3), most);
    }

    private static void constants() {
        due("NONE", CausalGate.NONE, -1);
    }

    private static long bytes(int... ofActors) {
        long clock = 0L;
        for (int actor = 0; actor < ofActors.length; actor++) {
            clock |= (long) ofActors[actor] << 8 * actor;
        }
        return clock;
    }

    private static long offer(CausalGate gate, int actor, int seq, long clock, int label) {
        try {
            return gate.offer(actor, seq, clock, label);
        } catch (IllegalArgumentException e) {
            return ILLEGAL_ARGUMENT;
        } catch (IllegalStateException e) {
            return ILLEGAL_STATE;
        }
    }

    private static long through(CausalGate gate, int i, int what) {
        try {
            return gate.through(i, what);
        } catch (IndexOutOfBoundsException e) {
            return outOfBounds(e);
        }
    }

    private static long waiting(CausalGate gate, int i, int what) {
        try {
            return gate.waiting(i, what);
        } catch (IndexOutOfBoundsException e) {
            return outOfBounds(e);
        }
    }

    // The machine's own exception is of a class below the one that the document names.
    private static long outOfBounds(IndexOutOfBoundsException e) {
        due("an exception of the document's own class", bit(e.getClass() == IndexOutOfBoundsException.class), 1);
        return OUT_OF_BOUNDS;
    }

    private static long bit(boolean b) {
        return b ? 1L : 0L;
    }

    private static void due(String call, long got, long want) {
        if (got != want) {
            wrong++;
            System.out.println(call + " answered " + got + ", due is " + want);
        }
    }
}
