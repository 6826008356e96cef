import java.util.ArrayList;
import java.util.List;

// For each sentence of the document that names a boundary case a test of its own, told by that sentence.
public final class BoundaryTests {
    private static final String ARGUMENT = "throws.IllegalArgumentException";
    private static final String STATE = "throws.IllegalStateException";
    private static final String BOUNDS = "throws.IndexOutOfBoundsException";

    private static final int LEAST = Integer.MIN_VALUE;
    private static final int GREATEST = Integer.MAX_VALUE;
    // 256 and its like would be right ones if only their lowest bits were looked at.
    private static final int[] NO_ACTORS = {-1, 8, 9, 15, 16, 255, 256, -8, -256, LEAST, LEAST + 1, GREATEST};
    private static final int[] NO_SEQS = {0, -1, 256, 257, 511, 512, -255, -256, LEAST, LEAST + 1, GREATEST};
    private static final long ALL_255 = -1L;

    private static String sentence = "";
    private static int wrong = 0;

    private interface Test {
        void run();
    }

    private interface Call {
        Object answer();
    }

    // An object in use. It counts its calls: behind the 512th every answer is free, so nothing would be tested.
    private static final class Gate {
        private final CausalGate gate = new CausalGate();
        private int calls = 0;

        String clear() {
            return told(() -> {
                gate.clear();
                return "";
            });
        }

        String offer(int actor, int seq, long clock, int label) {
            return told(() -> gate.offer(actor, seq, clock, label));
        }

        String known(int actor, int seq) {
            return told(() -> gate.known(actor, seq));
        }

        String clock() {
            return told(() -> gate.clock());
        }

        String through(int i, int what) {
            return told(() -> gate.through(i, what));
        }

        String waiting(int i, int what) {
            return told(() -> gate.waiting(i, what));
        }

        String ahead(long clock) {
            return told(() -> gate.ahead(clock));
        }

        String next(long clock, int i) {
            return told(() -> gate.next(clock, i));
        }

        String compare(long clock) {
            return told(() -> gate.compare(clock));
        }

        String forget(int actor) {
            return told(() -> gate.forget(actor));
        }

        String look(int which) {
            return told(() -> gate.look(which));
        }

        // The exact class is told: the machine's own exceptions stand below those that the document names.
        private String told(Call call) {
            calls++;
            if (calls == 513) {
                wrong++;
                System.out.println(sentence + " :: the test makes more than 512 calls of one object");
            }
            try {
                return String.valueOf(call.answer());
            } catch (RuntimeException e) {
                return "throws." + e.getClass().getSimpleName();
            }
        }

        Gate comes(int actor, int from, int to) {
            for (int seq = from; seq <= to; seq++) {
                due("offer(" + actor + ", " + seq + ")", offer(actor, seq, 0L, label(actor, seq)), 1);
            }
            return this;
        }

        Gate waits(int actor, int from, int to, long clock) {
            for (int seq = from; seq <= to; seq++) {
                due("offer(" + actor + ", " + seq + ")", offer(actor, seq, clock, label(actor, seq)), 0);
            }
            return this;
        }

        // All that can be seen of it without another change.
        String seen() {
            StringBuilder all = new StringBuilder("clock " + clock());
            for (int which = 0; which < 4; which++) {
                all.append(" look ").append(look(which));
            }
            int came = Integer.parseInt(look(0));
            for (int i = 0; i < came; i++) {
                all.append(" came ").append(through(i, 0)).append(':').append(through(i, 1)).append(' ').append(through(i, 2));
            }
            int wait = Integer.parseInt(look(1));
            for (int i = 0; i < wait; i++) {
                all.append(" waits ").append(waiting(i, 0)).append(':').append(waiting(i, 1)).append(' ').append(waiting(i, 2));
                all.append(" for ").append(waiting(i, 3)).append(':').append(waiting(i, 4));
            }
            return all.toString();
        }
    }

    public static void main(String[] args) {
        whatItIs();
        terms();
        stateCalls();
        readingCalls();
        System.out.println(wrong == 0 ? "all boundaries are as due" : wrong + " answers are not as due");
        if (wrong != 0) {
            System.exit(1);
        }
    }

    private static void whatItIs() {
        test("What it is: twice comes none", () -> twiceComesNone());
        test("What it is: at most 512 calls, all of them offers that come through", () -> offersInAllCalls());
        test("What it is: at most 512 calls, the last one of any kind", () -> anyLastCall());
        test("What it is: at most 512 calls, the last one sets 64 free", () -> chainInTheLastCall());
        test("What it is: at most 512 calls, the first one a clear", () -> clearThenOffers());
    }

    private static void terms() {
        test("Terms: ACTORS are 0 .. 7", () -> actors());
        test("Terms: a SEQ 1 .. 255", () -> seqs());
        test("Terms: a LABEL (any int)", () -> labels());
        test("Terms: byte a (a 0 the lowest) 0 .. 255 for actor a", () -> bytesWithoutSign());
        test("Terms: byte a for actor a, up to 255", () -> bytesUpTo255());
        test("Terms: the gate's own clock has .. 0 at first", () -> zeroAtFirst());
        test("Terms: the gate's own clock has .. the SEQ of its last change that came through", () -> lastThatCame());
        test("Terms: its SEQ is 1 more than its actor's byte", () -> oneMoreThanItsByte());
        test("Terms: its SEQ is 1 more: none is behind 255", () -> noneBehind255());
        test("Terms: for each other actor its CLOCK's byte is not above the gate's", () -> notAboveTheGates());
        test("Terms: its own actor's byte counts for nothing", () -> ownByte());
        test("Terms: its actor's byte is its SEQ", () -> byteIsItsSeq());
        test("Terms: KNOWN already if its SEQ is not above its actor's byte", () -> knownByTheClock());
        test("Terms: KNOWN already if .. one of this actor and SEQ waits", () -> knownByWaiting());
        test("Terms: nothing happens then", () -> knownChangesNothing());
        test("Terms: as long as one that waits can COME THROUGH", () -> asLongAsOneCan());
        test("Terms: the one of the least actor does", () -> leastActorFirst());
        test("Terms: at most 64 wait behind an offer", () -> at64());
        test("Terms: behind an offer: the one that comes through at once does not count", () -> at64AndOneThatComes());
        test("Terms: LACKS its own actor's next SEQ, if that is not its own", () -> lacksItsOwn());
        test("Terms: else, of the least other actor whose byte is above", () -> lacksTheLeastOther());
        test("Terms: LACKS the next SEQ above the gate's", () -> lacksTheNextSeq());
        test("Terms: what throws changes nothing", () -> throwingChangesNothing());
        test("Terms: the first one listed is thrown", () -> firstListedIsThrown());
        test("Terms: NONE = -1", () -> due("NONE", "" + CausalGate.NONE, -1));
    }

    private static void stateCalls() {
        test("1: no change has come", () -> dueAsAtFirst(new Gate()));
        test("1: no change has come, whatever came to another object", () -> apartFromOthers());
        test("2: all is as at first", () -> clearOfMany());
        test("2: all is as at first, of an empty one", () -> clearOfEmpty());
        test("2: all is as at first, of a full one", () -> clearOfFull());
        test("3: how many came through by that", () -> offerCounts());
        test("3: 0: it waits", () -> offerZeroWaits());
        test("3: 0: it is KNOWN", () -> offerZeroKnown());
        test("3: IllegalArgumentException if actor is none", () -> offerOfNoActor());
        test("3: IllegalArgumentException if seq is none", () -> offerOfNoSeq());
        test("3: IllegalStateException if 65 would wait", () -> offerOf65th());
        test("3: IllegalStateException if 65 would wait, not if it is KNOWN", () -> offerOfKnownWhenFull());
        test("3: IllegalStateException if 65 would wait, not if one was forgotten or came", () -> offerWhenNoLongerFull());
        test("11: all that waits of an actor is forgotten: how many", () -> forgetSome());
        test("11: all that waits is forgotten, of a full gate", () -> forgetOfFull());
        test("11: 0 if there is no such actor", () -> forgetOfNoActor());
    }

    private static void readingCalls() {
        test("4: whether a change is KNOWN", () -> known());
        test("4: whether a change is KNOWN: none is of no actor or no SEQ", () -> knownOfNone());
        test("5: the gate's clock, its bytes full", () -> clockFull());
        test("6: from 0 on", () -> throughFromZero());
        test("6: IndexOutOfBoundsException if there is none such", () -> throughOfNone());
        test("6: IndexOutOfBoundsException if there is no such what", () -> throughOfNoWhat());
        test("7: by actor and then SEQ, the least first", () -> waitingInOrder());
        test("7: IndexOutOfBoundsException if there is none such", () -> waitingOfNone());
        test("7: IndexOutOfBoundsException if there is no such what", () -> waitingOfNoWhat());
        test("8: those with a SEQ above its byte", () -> aheadOfEachByte());
        test("8: how many came through that a CLOCK lacks, if none", () -> aheadOfNothing());
        test("9: behind place i", () -> nextBehindPlaces());
        test("9: NONE: of all", () -> nextOfAll());
        test("9: NONE without one", () -> nextWithoutOne());
        test("10: 0 the same", () -> compareSame());
        test("10: 1 the gate's is nowhere less", () -> compareNowhereLess());
        test("10: 2 nowhere more", () -> compareNowhereMore());
        test("10: 3 each is more somewhere", () -> compareBoth());
        test("12: changes that came through, that wait, offers that were KNOWN", () -> lookCounts());
        test("12: the most that waited at once (behind an offer)", () -> lookMost());
        test("12: NONE for any other which", () -> lookOfNone());
        test("No call but clear, offer and forget changes anything", () -> readingChangesNothing());
    }

    // What it is

    private static void twiceComesNone() {
        Gate gate = new Gate();
        due("first", gate.offer(0, 1, 0L, 1), 1);
        due("again", gate.offer(0, 1, 0L, 2), 0);
        due("one that waits", gate.offer(0, 3, 0L, 3), 0);
        due("again", gate.offer(0, 3, 0L, 4), 0);
        due("what it waited for", gate.offer(0, 2, 0L, 5), 2);
        due("again, when it came", gate.offer(0, 3, 0L, 6), 0);
        due("came", gate.look(0), 3);
        due("waits", gate.look(1), 0);
        due("label", gate.through(0, 2), 1);
        due("label", gate.through(2, 2), 3);
    }

    private static void offersInAllCalls() {
        Gate byActors = new Gate().comes(0, 1, 255).comes(7, 1, 255).comes(3, 1, 2);
        due("calls", "" + byActors.calls, 512);
        Gate inTurn = new Gate();
        for (int seq = 1; seq <= 64; seq++) {
            for (int actor = 7; actor >= 0; actor--) {
                inTurn.comes(actor, seq, seq);
            }
        }
        due("calls", "" + inTurn.calls, 512);
    }

    private static void anyLastCall() {
        due("look(0)", with511().look(0), 511);
        due("look(1)", with511().look(1), 0);
        due("through(510, 0)", with511().through(510, 0), 4);
        due("through(510, 1)", with511().through(510, 1), 1);
        due("through(510, 2)", with511().through(510, 2), label(4, 1));
        due("through(511, 0)", with511().through(511, 0), BOUNDS);
        due("through(0, 2)", with511().through(0, 2), label(1, 1));
        due("waiting(0, 0)", with511().waiting(0, 0), BOUNDS);
        due("clock()", with511().clock(), at(1, 255) | at(2, 255) | at(4, 1));
        due("known", with511().known(4, 1), true);
        due("known", with511().known(4, 2), false);
        due("ahead", with511().ahead(0L), 511);
        due("next", with511().next(0L, 509), 510);
        due("next", with511().next(0L, 510), -1);
        due("next", with511().next(at(1, 255) | at(2, 255), -1), 510);
        due("compare", with511().compare(0L), 1);
        due("forget", with511().forget(1), 0);
        due("offer of one that waits", with511().offer(5, 2, 0L, 1), 0);
        due("offer of none", with511().offer(8, 2, 0L, 1), ARGUMENT);
        due("clear", with511().clear(), "");
    }

    private static Gate with511() {
        return new Gate().comes(1, 1, 255).comes(2, 1, 255).comes(4, 1, 1);
    }

    private static void chainInTheLastCall() {
        Gate gate = new Gate().waits(7, 2, 65, 0L).comes(0, 1, 255).comes(1, 1, 192);
        due("calls", "" + gate.calls, 511);
        due("the 512th call", gate.offer(7, 1, 0L, 0), 65);
    }

    private static void clearThenOffers() {
        Gate gate = new Gate();
        gate.clear();
        gate.comes(5, 1, 255).comes(6, 1, 255);
        due("the 512th call", gate.through(509, 1), 255);
        Gate late = new Gate().comes(5, 1, 255);
        late.clear();
        late.comes(5, 1, 255);
        due("the 512th call", late.through(255, 0), BOUNDS);
    }

    // Terms

    private static void actors() {
        for (int actor = 0; actor <= 7; actor++) {
            Gate gate = new Gate();
            due("offer of " + actor, gate.offer(actor, 1, 0L, 1), 1);
            due("actor told", gate.through(0, 0), actor);
            due("clock", gate.clock(), 1L << 8 * actor);
        }
        due("offer of -1", new Gate().offer(-1, 1, 0L, 1), ARGUMENT);
        due("offer of 8", new Gate().offer(8, 1, 0L, 1), ARGUMENT);
    }

    private static void seqs() {
        for (int actor = 0; actor <= 7; actor++) {
            Gate gate = new Gate();
            due("the least SEQ", gate.offer(actor, 1, 0L, 1), 1);
            due("the greatest SEQ", gate.offer(actor, 255, 0L, 1), 0);
            due("it waits", gate.waiting(0, 1), 255);
            due("0 is none", gate.offer(actor, 0, 0L, 1), ARGUMENT);
            due("256 is none", gate.offer(actor, 256, 0L, 1), ARGUMENT);
            gate.comes(actor, 2, 253);
            due("the greatest comes behind the last but one", gate.offer(actor, 254, 0L, 1), 2);
            due("SEQ told", gate.through(254, 1), 255);
        }
    }

    private static void labels() {
        int[] some = {LEAST, LEAST + 1, -256, -255, -1, 0, 1, 255, 256, 65536, GREATEST - 1, GREATEST};
        for (int label : some) {
            Gate gate = new Gate();
            gate.offer(3, 2, 0L, label);
            due("of one that waits", gate.waiting(0, 2), label);
            gate.offer(3, 1, 0L, ~label);
            due("of one that came", gate.through(0, 2), ~label);
            due("of one that waited", gate.through(1, 2), label);
        }
    }

    private static void bytesWithoutSign() {
        for (int actor = 0; actor <= 7; actor++) {
            int other = (actor + 3) % 8;
            Gate gate = new Gate().comes(actor, 1, 127);
            due("128 is above 127", gate.offer(other, 1, at(actor, 128), 1), 0);
            due("it lacks", gate.waiting(0, 4), 128);
            due("compare", gate.compare(at(actor, 128)), 2);
            due("ahead", gate.ahead(at(actor, 128)), 0);
            due("next", gate.next(at(actor, 128), -1), -1);
            due("128 comes and sets it free", gate.offer(actor, 128, 0L, 1), 2);
            due("127 is not above 128", gate.offer(other, 2, at(actor, 127), 1), 1);
            due("compare", gate.compare(at(actor, 127)), 1);
            due("ahead", gate.ahead(at(actor, 127)), 3);
            due("next", gate.next(at(actor, 127), -1), 127);
        }
    }

    private static void bytesUpTo255() {
        for (int actor = 0; actor <= 7; actor++) {
            int other = (actor + 5) % 8;
            Gate gate = new Gate().comes(actor, 1, 254);
            due("255 is above 254", gate.offer(other, 1, at(actor, 255), 1), 0);
            due("it lacks the actor", gate.waiting(0, 3), actor);
            due("it lacks the SEQ", gate.waiting(0, 4), 255);
            due("255 comes and sets it free", gate.offer(actor, 255, 0L, 1), 2);
            due("255 is not above 255", gate.offer(other, 2, at(actor, 255), 1), 1);
            due("ahead", gate.ahead(at(actor, 255)), 2);
            due("ahead", gate.ahead(at(actor, 254)), 3);
        }
    }

    private static void zeroAtFirst() {
        Gate gate = new Gate();
        due("clock", gate.clock(), 0);
        due("the same", gate.compare(0L), 0);
        for (int actor = 0; actor <= 7; actor++) {
            Gate one = new Gate();
            due("on nothing", one.offer(actor, 1, at(actor, 200), 1), 1);
            Gate two = new Gate();
            due("on one change", two.offer(actor, 1, at((actor + 1) % 8, 1), 1), 0);
        }
    }

    private static void lastThatCame() {
        Gate gate = new Gate().comes(6, 1, 3);
        due("of 6", gate.clock(), at(6, 3));
        gate.offer(6, 5, 0L, 1);
        due("one that waits counts for nothing", gate.clock(), at(6, 3));
        gate.offer(6, 2, 0L, 1);
        due("nor one that is KNOWN", gate.clock(), at(6, 3));
        gate.forget(6);
        due("nor one that is forgotten", gate.clock(), at(6, 3));
        gate.offer(6, 4, 0L, 1);
        due("the next", gate.clock(), at(6, 4));
        Gate free = new Gate().waits(2, 2, 9, 0L);
        due("all that waited", free.offer(2, 1, 0L, 1), 9);
        due("the last of them", free.clock(), at(2, 9));
    }

    private static void oneMoreThanItsByte() {
        for (int actor = 0; actor <= 7; actor++) {
            Gate gate = new Gate().comes(actor, 1, 3);
            due("as much", gate.offer(actor, 3, 0L, 1), 0);
            due("as much does not wait", gate.look(1), 0);
            due("2 more", gate.offer(actor, 5, 0L, 1), 0);
            due("2 more waits", gate.look(1), 1);
            due("1 more", gate.offer(actor, 4, 0L, 1), 2);
            due("no first one", new Gate().offer(actor, 2, 0L, 1), 0);
        }
    }

    private static void noneBehind255() {
        for (int actor = 0; actor <= 7; actor++) {
            Gate gate = new Gate().comes(actor, 1, 255);
            due("0", gate.offer(actor, 0, 0L, 1), ARGUMENT);
            due("256", gate.offer(actor, 256, 0L, 1), ARGUMENT);
            due("1", gate.offer(actor, 1, 0L, 1), 0);
            due("255", gate.offer(actor, 255, 0L, 1), 0);
            due("came", gate.look(0), 255);
            due("waits", gate.look(1), 0);
            due("clock", gate.clock(), at(actor, 255));
            due("the others go on", gate.offer((actor + 1) % 8, 1, at(actor, 255), 1), 1);
        }
    }

    private static void notAboveTheGates() {
        for (int own = 0; own <= 7; own++) {
            for (int other = 0; other <= 7; other++) {
                if (own != other) {
                    Gate gate = new Gate().comes(other, 1, 2);
                    due("1 below", gate.offer(own, 1, at(other, 1), 1), 1);
                    due("as much", gate.offer(own, 2, at(other, 2), 1), 1);
                    due("1 above", gate.offer(own, 3, at(other, 3), 1), 0);
                    due("1 above waits", gate.look(1), 1);
                    due("until it is there", gate.offer(other, 3, 0L, 1), 2);
                }
            }
        }
        Gate all = new Gate();
        for (int actor = 0; actor <= 6; actor++) {
            due("on all others", all.offer(7, 1, 0x0001010101010101L, 1), 0);
            all.offer(actor, 1, 0L, 1);
        }
        due("came with the last of them", all.look(0), 8);
    }

    private static void ownByte() {
        int[] some = {0, 1, 2, 127, 128, 254, 255};
        for (int actor = 0; actor <= 7; actor++) {
            for (int own : some) {
                Gate gate = new Gate();
                due("the first, own byte " + own, gate.offer(actor, 1, at(actor, own), 1), 1);
                due("the third, own byte " + own, gate.offer(actor, 3, at(actor, own), 1), 0);
                due("the second, own byte " + own, gate.offer(actor, 2, at(actor, own), 1), 2);
                int other = (actor + 1) % 8;
                due("one that hangs on another", gate.offer(actor, 4, at(actor, own) | at(other, 1), 1), 0);
                due("lacks that one", gate.waiting(0, 3), other);
                due("and comes with it", gate.offer(other, 1, 0L, 1), 2);
            }
        }
    }

    private static void byteIsItsSeq() {
        for (int actor = 0; actor <= 7; actor++) {
            Gate gate = new Gate();
            for (int seq = 1; seq <= 255; seq++) {
                gate.offer(actor, seq, 0L, 1);
                due("clock behind SEQ " + seq, gate.clock(), at(actor, seq));
            }
        }
    }

    private static void knownByTheClock() {
        for (int actor = 0; actor <= 7; actor++) {
            Gate gate = new Gate().comes(actor, 1, 5);
            for (int seq = 1; seq <= 5; seq++) {
                due("offer of " + seq, gate.offer(actor, seq, 0L, 1), 0);
                due("KNOWN offers", gate.look(2), seq);
            }
            due("waits", gate.look(1), 0);
            due("1 above the byte", gate.offer(actor, 6, 0L, 1), 1);
            due("KNOWN offers", gate.look(2), 5);
            due("the same SEQ of another", gate.offer((actor + 1) % 8, 5, 0L, 1), 0);
            due("is not KNOWN", gate.look(2), 5);
            due("but waits", gate.look(1), 1);
        }
    }

    private static void knownByWaiting() {
        for (int actor = 0; actor <= 7; actor++) {
            Gate gate = new Gate();
            gate.offer(actor, 9, 0L, 1);
            gate.offer(actor, 8, 0L, 1);
            gate.offer(actor, 10, 0L, 1);
            due("its neighbours are not KNOWN", gate.look(2), 0);
            gate.offer((actor + 1) % 8, 9, 0L, 1);
            due("nor another actor's", gate.look(2), 0);
            gate.offer(actor, 9, ALL_255, 2);
            due("the same actor and SEQ", gate.look(2), 1);
            due("waits", gate.look(1), 4);
            gate.forget(actor);
            gate.offer(actor, 9, 0L, 1);
            due("one that was forgotten is not", gate.look(2), 1);
            due("but waits again", gate.look(1), 2);
        }
    }

    private static void knownChangesNothing() {
        Gate gate = new Gate();
        gate.offer(2, 1, at(0, 1), 7);
        due("with another clock and label", gate.offer(2, 1, 0L, 8), 0);
        due("it waits on", gate.look(1), 1);
        due("label", gate.waiting(0, 2), 7);
        due("lacks", gate.waiting(0, 3), 0);
        due("the most that waited", gate.look(3), 1);
        due("with a clock that hangs on more", gate.offer(2, 1, ALL_255, 9), 0);
        due("it comes by its first clock", gate.offer(0, 1, 0L, 1), 2);
        due("KNOWN by the gate's clock", gate.offer(2, 1, ALL_255, 10), 0);
        due("label", gate.through(1, 2), 7);
        due("came", gate.look(0), 2);
        due("clock", gate.clock(), at(2, 1) | at(0, 1));
        due("KNOWN", gate.look(2), 3);
    }

    private static void asLongAsOneCan() {
        Gate gate = new Gate();
        // Each hangs on the one before it, so that one that comes sets only the next one free.
        for (int n = 1; n < 64; n++) {
            int actor = 7 - n % 8;
            gate.offer(actor, n / 8 + 1, at((actor + 1) % 8, (n - 1) / 8 + 1), n);
        }
        due("wait", gate.look(1), 63);
        due("one sets all free", gate.offer(7, 1, 0L, 0), 64);
        for (int n = 0; n < 64; n++) {
            due("place " + n, gate.through(n, 2), n);
        }
        Gate stops = new Gate().waits(4, 2, 3, 0L).waits(4, 5, 6, 0L);
        due("up to a gap", stops.offer(4, 1, 0L, 1), 3);
        due("the others wait", stops.look(1), 2);
        due("to the end", stops.offer(4, 4, 0L, 1), 3);
    }

    private static void leastActorFirst() {
        for (int trigger = 0; trigger <= 7; trigger++) {
            Gate gate = new Gate();
            for (int actor = 7; actor >= 0; actor--) {
                if (actor != trigger) {
                    gate.offer(actor, 1, at(trigger, 1), actor);
                }
            }
            due("all come", gate.offer(trigger, 1, 0L, trigger), 8);
            due("first", gate.through(0, 0), trigger);
            int place = 1;
            for (int actor = 0; actor <= 7; actor++) {
                if (actor != trigger) {
                    due("place " + place, gate.through(place, 0), actor);
                    place++;
                }
            }
        }
        Gate again = new Gate();
        again.offer(0, 2, at(1, 1), 2);
        again.offer(0, 1, at(7, 1), 1);
        again.offer(1, 1, at(7, 1), 3);
        again.offer(1, 2, 0L, 4);
        due("all come", again.offer(7, 1, 0L, 0), 5);
        int[] order = {0, 1, 3, 2, 4};
        for (int i = 0; i < order.length; i++) {
            due("a lesser actor set free goes before, place " + i, again.through(i, 2), order[i]);
        }
        Gate later = new Gate().comes(2, 1, 9).waits(2, 10, 10, at(7, 1)).waits(5, 1, 1, at(7, 1));
        due("all come", later.offer(7, 1, 0L, 0), 3);
        due("the lesser actor, though its SEQ is greater", later.through(10, 0), 2);
    }

    private static void at64() {
        for (Gate gate : fullOnes()) {
            due("64 wait", gate.look(1), 64);
            due("64 at most", gate.look(3), 64);
            due("all of them are told", gate.waiting(63, 2).startsWith("throws") ? "no" : "yes", "yes");
            due("no 65th", gate.waiting(64, 0), BOUNDS);
        }
        Gate nearly = new Gate().waits(3, 2, 64, 0L);
        due("63 wait", nearly.look(1), 63);
        due("the 64th may", nearly.offer(3, 66, 0L, 1), 0);
        due("64 wait", nearly.look(1), 64);
        due("the 65th may not", nearly.offer(3, 67, 0L, 1), STATE);
    }

    private static void at64AndOneThatComes() {
        Gate gate = new Gate().waits(0, 2, 65, 0L);
        due("one that sets none free", gate.offer(7, 1, 0L, 1), 1);
        due("64 wait", gate.look(1), 64);
        due("64 at most", gate.look(3), 64);
        due("one that sets all free", gate.offer(0, 1, at(7, 1), 1), 65);
        due("none waits", gate.look(1), 0);
        due("64 at most", gate.look(3), 64);
        Gate one = new Gate().waits(0, 2, 64, 0L).waits(1, 1, 1, at(7, 1));
        due("one that sets one free", one.offer(7, 1, 0L, 1), 2);
        due("63 wait", one.look(1), 63);
        due("the 64th may again", one.offer(1, 3, 0L, 1), 0);
        due("the 65th may not", one.offer(1, 4, 0L, 1), STATE);
    }

    private static void lacksItsOwn() {
        for (int actor = 0; actor <= 7; actor++) {
            Gate gate = new Gate().comes(actor, 1, 2);
            gate.offer(actor, 4, ALL_255, 1);
            due("its own actor, whatever else it hangs on", gate.waiting(0, 3), actor);
            due("the next SEQ", gate.waiting(0, 4), 3);
            gate.offer(actor, 255, 0L, 1);
            due("its own actor", gate.waiting(1, 3), actor);
            due("the next SEQ, far below its own", gate.waiting(1, 4), 3);
            gate.offer(actor, 3, ALL_255, 1);
            due("it waits itself: its own SEQ is the next", gate.waiting(0, 3), actor == 0 ? 1 : 0);
            due("those behind it lack it, though it waits", gate.waiting(1, 3), actor);
            due("SEQ", gate.waiting(1, 4), 3);
        }
    }

    private static void lacksTheLeastOther() {
        for (int own = 0; own <= 7; own++) {
            Gate gate = new Gate();
            gate.offer(own, 1, 0x0101010101010101L, 1);
            for (int other = 0; other <= 7; other++) {
                if (other != own) {
                    due("of " + own, gate.waiting(0, 3), other);
                    due("SEQ", gate.waiting(0, 4), 1);
                    gate.offer(other, 1, 0L, 1);
                }
            }
            due("came with the last", gate.look(0), 8);
        }
    }

    private static void lacksTheNextSeq() {
        for (int other = 0; other <= 7; other++) {
            int own = (other + 1) % 8;
            Gate gate = new Gate();
            gate.offer(own, 1, at(other, 255), 1);
            for (int seq = 1; seq <= 84; seq++) {
                due("the next, not the one it names", gate.waiting(0, 4), seq);
                gate.offer(other, seq, 0L, 1);
            }
            gate.comes(other, 85, 254);
            due("the last", gate.waiting(0, 4), 255);
            due("that comes", gate.offer(other, 255, 0L, 1), 2);
        }
    }

    private static void throwingChangesNothing() {
        List<Gate> calm = someOnes();
        List<Gate> tried = someOnes();
        for (int n = 0; n < calm.size(); n++) {
            Gate gate = tried.get(n);
            due("actor", gate.offer(8, 1, 0L, 1), ARGUMENT);
            due("actor", gate.offer(-1, 1, 0L, 1), ARGUMENT);
            due("seq", gate.offer(0, 0, 0L, 1), ARGUMENT);
            due("seq", gate.offer(7, 256, 0L, 1), ARGUMENT);
            due("through", gate.through(-1, 0), BOUNDS);
            due("through", gate.through(0, 3), BOUNDS);
            due("waiting", gate.waiting(-1, 0), BOUNDS);
            due("waiting", gate.waiting(0, 5), BOUNDS);
            if (gate.look(1).equals("64")) {
                due("65th", gate.offer(5, 200, 0L, 1), STATE);
                due("65th, again", gate.offer(5, 200, 0L, 1), STATE);
                due("65th is not KNOWN", gate.known(5, 200), false);
            }
            due("object " + n, gate.seen(), calm.get(n).seen());
        }
    }

    private static void firstListedIsThrown() {
        for (Gate gate : fullOnes()) {
            due("65 would wait", gate.offer(6, 100, 0L, 1), STATE);
            for (int actor : NO_ACTORS) {
                due("and the actor is none: " + actor, gate.offer(actor, 100, 0L, 1), ARGUMENT);
            }
            for (int seq : NO_SEQS) {
                due("and the seq is none: " + seq, gate.offer(6, seq, 0L, 1), ARGUMENT);
                due("and both are none", gate.offer(8, seq, 0L, 1), ARGUMENT);
            }
        }
    }

    // Calls that change the state: promises 1 to 3 and 11

    private static void dueAsAtFirst(Gate gate) {
        due("nothing is seen", gate.seen(), "clock 0 look 0 look 0 look 0 look 0");
        due("through(0, 0)", gate.through(0, 0), BOUNDS);
        due("waiting(0, 0)", gate.waiting(0, 0), BOUNDS);
        due("ahead(0)", gate.ahead(0L), 0);
        due("next(0, NONE)", gate.next(0L, -1), -1);
        due("compare(0)", gate.compare(0L), 0);
        for (int actor = 0; actor <= 7; actor++) {
            due("known(" + actor + ", 1)", gate.known(actor, 1), false);
            due("known(" + actor + ", 2)", gate.known(actor, 2), false);
            due("known(" + actor + ", 255)", gate.known(actor, 255), false);
            due("forget(" + actor + ")", gate.forget(actor), 0);
        }
        for (int actor = 0; actor <= 7; actor++) {
            due("the first comes", gate.offer(actor, 1, 0L, 40 + actor), 1);
            due("with its label", gate.through(actor, 2), 40 + actor);
        }
        due("none of them waited", gate.look(3), 0);
    }

    private static void apartFromOthers() {
        Gate first = new Gate().comes(0, 1, 9).waits(1, 2, 9, 0L);
        Gate second = new Gate();
        dueAsAtFirst(second);
        due("nor does it touch the other", first.clock(), 9);
        due("came", first.look(0), 9);
        due("wait", first.look(1), 8);
        due("what came", first.through(1, 1), 2);
        due("its label", first.through(1, 2), label(0, 2));
        due("what waits", first.waiting(0, 1), 2);
        due("its label", first.waiting(0, 2), label(1, 2));
        due("and what it sets free", first.offer(1, 1, at(0, 9), 1), 9);
    }

    private static void clearOfMany() {
        Gate gate = new Gate().comes(0, 1, 9).comes(7, 1, 3).waits(1, 2, 9, 0L).waits(6, 1, 1, at(5, 1));
        gate.offer(0, 1, 0L, 1);
        gate.clear();
        dueAsAtFirst(gate);
        Gate high = new Gate().comes(7, 1, 255);
        high.clear();
        dueAsAtFirst(high);
    }

    private static void clearOfEmpty() {
        Gate gate = new Gate();
        gate.clear();
        gate.clear();
        dueAsAtFirst(gate);
    }

    private static void clearOfFull() {
        for (Gate gate : fullOnes()) {
            gate.clear();
            dueAsAtFirst(gate);
            gate.clear();
            gate.waits(3, 2, 65, 0L);
            due("64 may wait again", gate.look(1), 64);
            due("and no 65th", gate.offer(3, 66, 0L, 1), STATE);
        }
    }

    private static void offerCounts() {
        for (int waiting = 0; waiting <= 64; waiting++) {
            Gate gate = new Gate().waits(5, 2, 1 + waiting, 0L);
            due("it and " + waiting, gate.offer(5, 1, 0L, 1), 1 + waiting);
            due("came", gate.look(0), 1 + waiting);
        }
    }

    private static void offerZeroWaits() {
        Gate gate = new Gate();
        due("offer", gate.offer(3, 2, 0L, 5), 0);
        due("waits", gate.look(1), 1);
        due("KNOWN", gate.look(2), 0);
        due("came", gate.look(0), 0);
        due("label", gate.waiting(0, 2), 5);
        due("one on which none waits sets none free", gate.offer(4, 2, 0L, 6), 0);
        due("wait", gate.look(1), 2);
    }

    private static void offerZeroKnown() {
        Gate gate = new Gate().comes(3, 1, 1).waits(3, 3, 3, 0L);
        due("one that came", gate.offer(3, 1, 0L, 5), 0);
        due("one that waits", gate.offer(3, 3, 0L, 5), 0);
        due("KNOWN", gate.look(2), 2);
        due("came", gate.look(0), 1);
        due("wait", gate.look(1), 1);
    }

    private static void offerOfNoActor() {
        Gate gate = new Gate();
        for (int actor : NO_ACTORS) {
            due("actor " + actor, gate.offer(actor, 1, 0L, 1), ARGUMENT);
            due("actor " + actor, gate.offer(actor, 255, ALL_255, 1), ARGUMENT);
        }
        dueAsAtFirst(gate);
    }

    private static void offerOfNoSeq() {
        Gate gate = new Gate();
        for (int seq : NO_SEQS) {
            for (int actor = 0; actor <= 7; actor++) {
                due("seq " + seq, gate.offer(actor, seq, 0L, 1), ARGUMENT);
            }
        }
        dueAsAtFirst(gate);
    }

    private static void offerOf65th() {
        for (Gate gate : fullOnes()) {
            due("one with a gap", gate.offer(6, 100, 0L, 1), STATE);
            due("the last SEQ", gate.offer(0, 255, 0L, 1), STATE);
            due("the first SEQ of one that hangs on another", gate.offer(6, 1, at(7, 255), 1), STATE);
            due("64 wait", gate.look(1), 64);
            due("64 at most", gate.look(3), 64);
            due("none is KNOWN", gate.look(2), 0);
            due("not KNOWN", gate.known(6, 100), false);
        }
    }

    private static void offerOfKnownWhenFull() {
        Gate gate = new Gate().comes(7, 1, 2).waits(0, 2, 65, 0L);
        due("one that came", gate.offer(7, 1, ALL_255, 1), 0);
        due("the last that came", gate.offer(7, 2, ALL_255, 1), 0);
        due("the first that waits", gate.offer(0, 2, ALL_255, 1), 0);
        due("the last that waits", gate.offer(0, 65, ALL_255, 1), 0);
        due("KNOWN", gate.look(2), 4);
        due("64 wait", gate.look(1), 64);
    }

    private static void offerWhenNoLongerFull() {
        Gate gate = new Gate().waits(0, 2, 64, 0L).waits(4, 2, 2, 0L);
        due("full", gate.offer(5, 2, 0L, 1), STATE);
        due("one is forgotten", gate.forget(4), 1);
        due("one may wait", gate.offer(5, 2, 0L, 1), 0);
        due("full", gate.offer(5, 3, 0L, 1), STATE);
        due("one comes, and the one that waited for it", gate.offer(5, 1, 0L, 1), 2);
        due("one may wait", gate.offer(5, 4, 0L, 1), 0);
        due("full", gate.offer(5, 5, 0L, 1), STATE);
        due("one that sets a waiting one free is no 65th", gate.offer(5, 3, 0L, 1), 2);
        due("63 wait", gate.look(1), 63);
        due("64 at most", gate.look(3), 64);
    }

    private static void forgetSome() {
        for (int gone = 0; gone <= 7; gone++) {
            Gate gate = new Gate().comes(gone, 1, 1);
            for (int actor = 0; actor <= 7; actor++) {
                gate.waits(actor, 3, 3 + actor, 0L);
            }
            due("forget(" + gone + ")", gate.forget(gone), 1 + gone);
            due("again", gate.forget(gone), 0);
            due("wait", gate.look(1), 36 - 1 - gone);
            due("36 at most", gate.look(3), 36);
            due("what came stays", gate.known(gone, 1), true);
            due("what waited is not KNOWN", gate.known(gone, 3), false);
            int place = 0;
            for (int actor = 0; actor <= 7; actor++) {
                for (int seq = 3; actor != gone && seq <= 3 + actor; seq++) {
                    due("the others stay, " + place, gate.waiting(place, 2), label(actor, seq));
                    place++;
                }
            }
            due("the next comes alone", gate.offer(gone, 2, 0L, 1), 1);
            due("and what was forgotten comes anew", gate.offer(gone, 3, 0L, 77), 1);
            due("with its new label", gate.through(2, 2), 77);
        }
        due("of an empty gate", new Gate().forget(0), 0);
    }

    private static void forgetOfFull() {
        Gate one = new Gate().waits(7, 2, 65, 0L);
        due("all of one actor", one.forget(7), 64);
        due("none waits", one.look(1), 0);
        due("64 at most", one.look(3), 64);
        due("waiting(0, 0)", one.waiting(0, 0), BOUNDS);
        due("what they waited for comes alone", one.offer(7, 1, 0L, 1), 1);
        Gate spread = fullOnes().get(1);
        for (int actor = 7; actor >= 0; actor--) {
            due("forget(" + actor + ")", spread.forget(actor), 8);
            due("wait", spread.look(1), 8 * actor);
        }
    }

    private static void forgetOfNoActor() {
        List<Gate> calm = someOnes();
        List<Gate> tried = someOnes();
        for (int n = 0; n < calm.size(); n++) {
            for (int actor : NO_ACTORS) {
                due("forget(" + actor + ")", tried.get(n).forget(actor), 0);
            }
            due("object " + n, tried.get(n).seen(), calm.get(n).seen());
        }
    }

    // Calls that read: promises 4 to 10 and 12

    private static void known() {
        for (int actor = 0; actor <= 7; actor++) {
            Gate gate = new Gate().comes(actor, 1, 3).waits(actor, 5, 5, 0L).waits(actor, 255, 255, 0L);
            for (int seq = 1; seq <= 255; seq++) {
                due("known(" + actor + ", " + seq + ")", gate.known(actor, seq), seq <= 3 || seq == 5 || seq == 255);
            }
            for (int other = 0; other <= 7; other++) {
                for (int seq = 1; seq <= 5 && other != actor; seq++) {
                    due("known(" + other + ", " + seq + ")", gate.known(other, seq), false);
                }
            }
            Gate all = new Gate().comes(actor, 1, 255);
            due("the first of 255", all.known(actor, 1), true);
            due("the last of 255", all.known(actor, 255), true);
        }
    }

    private static void knownOfNone() {
        Gate gate = new Gate();
        for (int actor = 0; actor <= 7; actor++) {
            gate.comes(actor, 1, 2).waits(actor, 255, 255, 0L);
        }
        for (int actor : NO_ACTORS) {
            due("known(" + actor + ", 1)", gate.known(actor, 1), false);
            due("known(" + actor + ", 255)", gate.known(actor, 255), false);
        }
        for (int seq : NO_SEQS) {
            for (int actor = 0; actor <= 7; actor++) {
                due("known(" + actor + ", " + seq + ")", gate.known(actor, seq), false);
            }
        }
        Gate high = new Gate().comes(0, 1, 255);
        due("none behind 255", high.known(0, 256), false);
        due("none before 1", high.known(0, 0), false);
    }

    private static void clockFull() {
        due("0 and 1", new Gate().comes(0, 1, 255).comes(1, 1, 255).clock(), 0xFFFFL);
        due("6 and 7", new Gate().comes(6, 1, 255).comes(7, 1, 255).clock(), 0xFFFF000000000000L);
        due("7 alone", new Gate().comes(7, 1, 128).clock(), Long.MIN_VALUE);
        due("3 alone", new Gate().comes(3, 1, 255).clock(), 0xFF000000L);
        Gate even = new Gate();
        for (int actor = 0; actor <= 7; actor++) {
            even.comes(actor, 1, 63);
        }
        due("63 of each", even.clock(), 0x3F3F3F3F3F3F3F3FL);
    }

    private static void throughFromZero() {
        Gate gate = new Gate().comes(7, 1, 1).waits(0, 1, 1, at(6, 1)).comes(7, 2, 2);
        gate.offer(6, 1, 0L, label(6, 1));
        int[][] rows = {{7, 1}, {7, 2}, {6, 1}, {0, 1}};
        for (int i = 0; i < rows.length; i++) {
            due("actor of " + i, gate.through(i, 0), rows[i][0]);
            due("SEQ of " + i, gate.through(i, 1), rows[i][1]);
            due("LABEL of " + i, gate.through(i, 2), label(rows[i][0], rows[i][1]));
        }
        due("behind the last", gate.through(4, 0), BOUNDS);
    }

    private static void throughOfNone() {
        for (int came = 0; came <= 3; came++) {
            Gate gate = new Gate().comes(2, 1, came).waits(2, came + 2, came + 9, 0L);
            int[] none = {-1, -2, came, came + 1, 64, 255, 256, 511, 512, 513, LEAST, LEAST + 1, GREATEST - 1, GREATEST};
            for (int i : none) {
                for (int what = 0; what <= 2; what++) {
                    due("through(" + i + ", " + what + ") of " + came, gate.through(i, what), BOUNDS);
                }
            }
            gate.clear();
            due("what came before a clear", gate.through(0, 0), BOUNDS);
        }
    }

    private static void throughOfNoWhat() {
        Gate gate = new Gate().comes(2, 1, 6).waits(2, 8, 13, 0L);
        int[] none = {-1, -2, 3, 4, 5, 256, LEAST, LEAST + 1, GREATEST};
        for (int what : none) {
            for (int i = -1; i <= 6; i++) {
                due("through(" + i + ", " + what + ")", gate.through(i, what), BOUNDS);
            }
        }
    }

    private static void waitingInOrder() {
        for (int step : new int[] {1, 3, 5, 7, 9, 63}) {
            Gate gate = new Gate();
            // An odd step goes through all 64 in another order each time.
            for (int n = 0; n < 64; n++) {
                int at = n * step % 64;
                gate.waits(at / 8, seqOfPlace(at % 8), seqOfPlace(at % 8), 0L);
            }
            for (int at = 0; at < 64; at++) {
                due("actor of " + at, gate.waiting(at, 0), at / 8);
                due("SEQ of " + at, gate.waiting(at, 1), seqOfPlace(at % 8));
                due("LABEL of " + at, gate.waiting(at, 2), label(at / 8, seqOfPlace(at % 8)));
            }
        }
    }

    private static int seqOfPlace(int place) {
        int[] seqs = {2, 3, 127, 128, 129, 200, 254, 255};
        return seqs[place];
    }

    private static void waitingOfNone() {
        for (int wait = 0; wait <= 3; wait++) {
            Gate gate = new Gate().comes(5, 1, 5).waits(5, 7, 6 + wait, 0L);
            int[] none = {-1, -2, wait, wait + 1, 63, 64, 65, 66, LEAST, LEAST + 1, GREATEST - 1, GREATEST};
            for (int i : none) {
                for (int what = 0; what <= 4; what++) {
                    due("waiting(" + i + ", " + what + ") of " + wait, gate.waiting(i, what), BOUNDS);
                }
            }
        }
        Gate came = new Gate().waits(5, 2, 3, 0L);
        came.offer(5, 1, 0L, 1);
        due("those that came", came.waiting(0, 0), BOUNDS);
        Gate forgotten = new Gate().waits(5, 2, 3, 0L);
        forgotten.forget(5);
        due("those that are forgotten", forgotten.waiting(0, 0), BOUNDS);
        Gate cleared = new Gate().waits(5, 2, 3, 0L);
        cleared.clear();
        due("those before a clear", cleared.waiting(0, 0), BOUNDS);
        for (Gate full : fullOnes()) {
            for (int what = 0; what <= 4; what++) {
                due("the 65th", full.waiting(64, what), BOUNDS);
                due("the 64th", full.waiting(63, what).equals(BOUNDS) ? "none" : "one", "one");
            }
        }
    }

    private static void waitingOfNoWhat() {
        Gate gate = new Gate().comes(2, 1, 6).waits(2, 8, 13, 0L);
        int[] none = {-1, -2, 5, 6, 7, 256, LEAST, LEAST + 1, GREATEST};
        for (int what : none) {
            for (int i = -1; i <= 6; i++) {
                due("waiting(" + i + ", " + what + ")", gate.waiting(i, what), BOUNDS);
            }
        }
    }

    private static void aheadOfEachByte() {
        for (int actor = 0; actor <= 7; actor++) {
            int other = (actor + 1) % 8;
            Gate gate = new Gate().comes(actor, 1, 200).comes(other, 1, 2).waits(actor, 202, 209, 0L);
            for (int have = 0; have <= 255; have++) {
                int lacked = Math.max(0, 200 - have);
                due("ahead of " + have, gate.ahead(at(actor, have)), lacked + 2);
            }
            due("one that has more makes up for no other", gate.ahead(at(actor, 255) | at(other, 1)), 1);
        }
        due("all 255", new Gate().comes(3, 1, 255).ahead(0L), 255);
        due("all 510", new Gate().comes(3, 1, 255).comes(4, 1, 255).ahead(0L), 510);
    }

    private static void aheadOfNothing() {
        Gate empty = new Gate();
        due("of an empty gate", empty.ahead(0L), 0);
        due("of an empty gate", empty.ahead(ALL_255), 0);
        Gate waits = new Gate().waits(0, 2, 9, 0L);
        due("those that wait did not come", waits.ahead(0L), 0);
        Gate some = new Gate().comes(0, 1, 4).comes(7, 1, 4);
        due("its own clock", some.ahead(at(0, 4) | at(7, 4)), 0);
        due("one of one", some.ahead(at(0, 3) | at(7, 4)), 1);
        due("one of each", some.ahead(at(0, 3) | at(7, 3)), 2);
        due("more", some.ahead(ALL_255), 0);
    }

    // Came through, from place 0 on: 0:1, 7:1, 0:2, 7:2, 0:3, 7:3; two more wait.
    private static Gate six() {
        Gate gate = new Gate().waits(0, 9, 9, 0L).waits(3, 1, 1, at(4, 1));
        for (int seq = 1; seq <= 3; seq++) {
            gate.comes(0, seq, seq).comes(7, seq, seq);
        }
        return gate;
    }

    private static void nextBehindPlaces() {
        Gate gate = six();
        for (int i = 0; i < 5; i++) {
            due("behind " + i, gate.next(0L, i), i + 1);
        }
        long has = at(0, 1) | at(7, 2);
        int[] behind = {2, 2, 4, 4, 5, -1};
        for (int i = 0; i < behind.length; i++) {
            due("behind " + i + ", those that a clock has are passed by", gate.next(has, i), behind[i]);
        }
        due("a SEQ that is its byte is passed by", gate.next(at(0, 3) | at(7, 2), 0), 5);
        Gate far = new Gate().comes(1, 1, 255).comes(2, 1, 254);
        due("the last but one place", far.next(0L, 507), 508);
        due("the first of 2", far.next(at(1, 255), -1), 255);
    }

    private static void nextOfAll() {
        Gate gate = six();
        due("the first", gate.next(0L, CausalGate.NONE), 0);
        due("the first that is lacked", gate.next(at(0, 255), CausalGate.NONE), 1);
        due("the last", gate.next(at(0, 3) | at(7, 2), CausalGate.NONE), 5);
        int[] below = {-2, -3, -64, -512, LEAST, LEAST + 1};
        for (int i : below) {
            due("every place is behind " + i, gate.next(0L, i), 0);
        }
    }

    private static void nextWithoutOne() {
        Gate gate = six();
        int[] behind = {5, 6, 7, 64, 511, 512, 513, GREATEST - 1, GREATEST};
        for (int i : behind) {
            due("behind " + i, gate.next(0L, i), -1);
        }
        for (int i = -1; i <= 6; i++) {
            due("a clock that has all, behind " + i, gate.next(at(0, 3) | at(7, 3), i), -1);
            due("a clock that has more, behind " + i, gate.next(ALL_255, i), -1);
        }
        Gate empty = new Gate();
        for (int i : new int[] {-1, 0, 1, LEAST, GREATEST}) {
            due("of an empty gate, behind " + i, empty.next(0L, i), -1);
        }
        Gate waits = new Gate().waits(0, 2, 9, 0L);
        due("those that wait have no place", waits.next(0L, -1), -1);
    }

    private static Gate compared() {
        return new Gate().comes(0, 1, 130).comes(3, 1, 2).comes(7, 1, 130);
    }

    private static final long COMPARED = 0x8200000002000082L;

    private static void compareSame() {
        due("of an empty gate", new Gate().compare(0L), 0);
        due("the gate's clock", compared().compare(COMPARED), 0);
        due("one byte at 255", new Gate().comes(7, 1, 255).compare(at(7, 255)), 0);
        due("those that wait count for nothing", new Gate().waits(0, 2, 9, 0L).compare(0L), 0);
    }

    private static void compareNowhereLess() {
        Gate gate = compared();
        due("nothing", gate.compare(0L), 1);
        due("1 less of 0", gate.compare(COMPARED - 1), 1);
        due("1 less of 3", gate.compare(COMPARED - at(3, 1)), 1);
        due("1 less of 7", gate.compare(COMPARED - at(7, 1)), 1);
        due("1 less of each", gate.compare(COMPARED - 1 - at(3, 1) - at(7, 1)), 1);
        for (int actor = 0; actor <= 7; actor++) {
            Gate one = new Gate().comes(actor, 1, 1);
            due("1 of " + actor, one.compare(0L), 1);
        }
    }

    private static void compareNowhereMore() {
        Gate empty = new Gate();
        Gate gate = compared();
        for (int actor = 0; actor <= 7; actor++) {
            due("1 more of " + actor, empty.compare(at(actor, 1)), 2);
            due("255 of " + actor, empty.compare(at(actor, 255)), 2);
            due("1 more of " + actor, gate.compare(COMPARED + at(actor, 1)), 2);
            due("255 of " + actor, gate.compare(COMPARED | at(actor, 255)), 2);
        }
        due("all 255", gate.compare(ALL_255), 2);
        due("all 255", empty.compare(ALL_255), 2);
    }

    private static void compareBoth() {
        for (int less = 0; less <= 7; less++) {
            Gate gate = new Gate().comes(less, 1, 1);
            for (int more = 0; more <= 7; more++) {
                if (more != less) {
                    due("1 less of " + less + ", 1 more of " + more, gate.compare(at(more, 1)), 3);
                    due("1 less of " + less + ", 255 of " + more, gate.compare(at(more, 255)), 3);
                    due("as much of " + less + ", 1 more of " + more, gate.compare(at(less, 1) | at(more, 1)), 2);
                }
            }
        }
        due("all but one at 255", compared().compare(0xFFFFFFFFFFFFFF00L | 129L), 3);
    }

    private static void lookCounts() {
        Gate gate = new Gate();
        for (int seq = 1; seq <= 100; seq++) {
            gate.comes(1, seq, seq);
            due("came", gate.look(0), seq);
        }
        for (int wait = 1; wait <= 64; wait++) {
            gate.waits(2, 1 + wait, 1 + wait, 0L);
            due("wait", gate.look(1), wait);
        }
        for (int known = 1; known <= 40; known++) {
            gate.offer(known % 2 == 0 ? 1 : 2, 30, 0L, 1);
            due("KNOWN", gate.look(2), known);
        }
        gate.known(1, 1);
        gate.offer(3, 2, 0L, 1);
        gate.offer(8, 1, 0L, 1);
        due("neither known() nor what throws counts", gate.look(2), 40);
        due("a chain", gate.offer(2, 1, 0L, 1), 65);
        due("came", gate.look(0), 165);
        due("wait", gate.look(1), 0);
    }

    private static void lookMost() {
        Gate gate = new Gate().comes(0, 1, 1);
        due("one that came at once never waited", gate.look(3), 0);
        gate.waits(0, 3, 4, 0L);
        due("two", gate.look(3), 2);
        due("a chain", gate.offer(0, 2, 0L, 1), 3);
        due("behind the offer, not within it", gate.look(3), 2);
        gate.waits(0, 6, 6, 0L);
        due("fewer", gate.look(3), 2);
        gate.forget(0);
        due("forget", gate.look(3), 2);
        gate.waits(0, 6, 8, 0L);
        due("more", gate.look(3), 3);
        gate.offer(0, 6, 0L, 1);
        due("a KNOWN one", gate.look(3), 3);
        gate.forget(0);
        gate.waits(0, 7, 70, 0L);
        due("64", gate.look(3), 64);
        due("no 65th", gate.offer(0, 71, 0L, 1), STATE);
        due("64", gate.look(3), 64);
        gate.clear();
        due("clear", gate.look(3), 0);
    }

    private static void lookOfNone() {
        int[] none = {-1, -2, 4, 5, 8, 255, 256, LEAST, LEAST + 1, GREATEST};
        for (Gate gate : someOnes()) {
            for (int which : none) {
                due("look(" + which + ")", gate.look(which), -1);
            }
        }
    }

    private static void readingChangesNothing() {
        List<Gate> calm = someOnes();
        List<Gate> read = someOnes();
        for (int n = 0; n < calm.size(); n++) {
            Gate gate = read.get(n);
            for (int k = -1; k <= 5; k++) {
                gate.known(0, k);
                gate.known(k, 2);
                gate.through(0, k);
                gate.waiting(0, k);
                gate.next(0L, k);
                gate.look(k);
            }
            gate.clock();
            gate.ahead(0L);
            gate.compare(ALL_255);
            due("object " + n, gate.seen(), calm.get(n).seen());
        }
    }

    // Full in several shapes: of one actor, of each, of firsts and seconds that hang on others. 6:100 waits in none.
    private static List<Gate> fullOnes() {
        List<Gate> all = new ArrayList<>();
        all.add(new Gate().waits(0, 2, 65, 0L));
        Gate spread = new Gate();
        for (int actor = 7; actor >= 0; actor--) {
            spread.waits(actor, 2, 9, 0L);
        }
        all.add(spread);
        Gate hanging = new Gate();
        for (int actor = 0; actor <= 3; actor++) {
            hanging.waits(actor, 1, 16, at(4, 1));
        }
        all.add(hanging);
        return all;
    }

    private static List<Gate> someOnes() {
        List<Gate> all = fullOnes();
        all.add(new Gate());
        all.add(new Gate().comes(0, 1, 1));
        all.add(six());
        Gate known = new Gate().comes(2, 1, 3).waits(4, 1, 3, at(2, 4));
        known.offer(2, 2, 0L, 1);
        all.add(known);
        return all;
    }

    private static int label(int actor, int seq) {
        return 1000 * actor + seq;
    }

    private static long at(int actor, int value) {
        return (long) value << 8 * actor;
    }

    private static void test(String ofSentence, Test test) {
        sentence = ofSentence;
        test.run();
    }

    private static void due(String call, String got, Object want) {
        if (!got.equals(String.valueOf(want))) {
            wrong++;
            System.out.println(sentence + " :: " + call + " answered " + got + ", due is " + want);
        }
    }
}
