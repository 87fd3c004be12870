/** Promises 12 to 15 and 21: messages, and what they say has arrived. */
public final class MessagesTest {
    private final Due due = new Due();

    public static void main(String[] args) {
        MessagesTest test = new MessagesTest();
        test.gossip();
        test.gossipOfTheState();
        test.gossipRefused();
        test.deliverData();
        test.deliverAcks();
        test.deliverToDown();
        test.deliverFailing();
        test.sideBySide();
        test.takenOutStaysOut();
        test.lose();
        test.fullPost();
        test.collect();
        test.collectRefused();
        test.message();
        test.due.end();
    }

    private void told(String label, DottedMaps maps, int k, int... answers) {
        for (int what = 0; what < answers.length; what++) {
            int w = what;
            due.is(label + ", what " + what, () -> maps.message(k, w), answers[what]);
        }
    }

    private void gossip() {
        DottedMaps maps = new DottedMaps(3);
        due.is("12 gossip of nothing", () -> maps.gossip(0, 1), 0);
        due.is("12 gossip of nothing sends nothing", () -> maps.message(-1, 0), 0);
        maps.write(0, 1, 5);
        maps.write(0, 1, 6);
        due.is("12 gossip of the buffer", () -> maps.gossip(0, 2), 1);
        told("12 gossip joins the deltas", maps, 0, 1, 0, 2, 2, 1, 2);
        maps.deliver(0);
        maps.deliver(0);
        due.is("12 gossip when all has arrived", () -> maps.gossip(0, 2), 0);
        maps.clear(0, 1, 2);
        maps.raise(0, 3);
        due.is("12 gossip from the ack on", () -> maps.gossip(0, 2), 1);
        told("12 gossip of two deltas", maps, 0, 1, 0, 2, 4, 1, 2);
        due.is("12 gossip to another from 0 on", () -> maps.gossip(0, 1), 1);
        told("12 gossip of four deltas", maps, 1, 1, 0, 1, 4, 1, 3);
        maps.raise(0, 3);
        told("12 what is sent does not change after that", maps, 1, 1, 0, 1, 4, 1, 3);
        due.is("12 gossip makes no write", () -> maps.replica(0, 4), 5);
    }

    private void gossipOfTheState() {
        DottedMaps maps = new DottedMaps(2);
        for (int n = 1; n <= 12; n++) {
            maps.count(0, 1, n);
        }
        due.is("12 gossip of twelve", () -> maps.gossip(0, 1), 1);
        told("12 gossip of twelve deltas", maps, 0, 1, 0, 1, 12, 12, 12);
        maps.clear(0, 1, 4);
        due.is("12 gossip of thirteen", () -> maps.gossip(0, 1), 2);
        told("12 gossip of the state", maps, 1, 1, 0, 1, 13, 0, 12);
        due.is("12 deliver the twelve", () -> maps.deliver(0), 1);
        due.is("12 deliver the ack of twelve", () -> maps.deliver(1), 3);
        due.is("12 gossip of the last in the buffer", () -> maps.gossip(0, 1), 1);
        told("12 gossip of the last delta", maps, 1, 1, 0, 1, 13, 0, 12);
        maps.power(0, false);
        maps.power(0, true);
        due.is("12 gossip after coming up", () -> maps.gossip(0, 1), 2);
        maps.raise(0, 2);
        due.is("12 gossip with a part in the buffer", () -> maps.gossip(0, 1), 2);
        told("12 gossip of the state again", maps, 3, 1, 0, 1, 14, 1, 13);
    }

    private void gossipRefused() {
        DottedMaps maps = new DottedMaps(3);
        int[][] wrong = {{0, 0}, {2, 2}, {0, 3}, {3, 0}, {-1, 0}, {0, -1}, {Integer.MAX_VALUE, Integer.MIN_VALUE}};
        for (int[] pair : wrong) {
            due.refusesArguments("12 gossip " + pair[0] + " " + pair[1], () -> maps.gossip(pair[0], pair[1]));
        }
        maps.raise(0, 1);
        maps.power(1, false);
        due.refusesState("12 gossip when down", () -> maps.gossip(1, 0));
        due.refusesArguments("12 gossip: arguments before being up", () -> maps.gossip(1, 1));
        due.is("12 gossip to one that is down", () -> maps.gossip(0, 1), 1);
    }

    private void deliverData() {
        DottedMaps maps = new DottedMaps(2);
        maps.raise(0, 1);
        maps.gossip(0, 1);
        maps.gossip(0, 1);
        due.is("13 deliver what is new", () -> maps.deliver(0), 1);
        told("13 an ACK goes back", maps, 1, 0, 1, 0, 1, 0, 0);
        due.is("13 taking in is a write", () -> maps.replica(1, 4), 1);
        due.is("13 taking in makes NEXT grow", () -> maps.replica(1, 1), 1);
        due.is("13 the flag has come", () -> maps.sees(1, 1, 1), true);
        due.is("13 deliver what is known", () -> maps.deliver(0), 2);
        told("13 an ACK goes back for it too", maps, 1, 0, 1, 0, 1, 0, 0);
        due.is("13 what changes nothing is no write", () -> maps.replica(1, 4), 1);
        due.is("13 what was taken in is passed on", () -> maps.gossip(1, 0), 1);
        due.is("13 deliver it to where it came from", () -> maps.deliver(2), 2);
        for (int k : new int[] {-1, 3, 24, Integer.MAX_VALUE, Integer.MIN_VALUE}) {
            due.refusesArguments("13 deliver " + k, () -> maps.deliver(k));
        }
        due.is("13 a refused deliver changes nothing", () -> maps.message(-1, 0), 3);
    }

    private void deliverAcks() {
        DottedMaps maps = new DottedMaps(2);
        maps.raise(0, 1);
        maps.gossip(0, 1);
        maps.deliver(0);
        maps.raise(0, 2);
        maps.gossip(0, 1);
        maps.deliver(1);
        told("13 the older ACK is first", maps, 0, 0, 1, 0, 1);
        due.is("13 deliver the later ACK", () -> maps.deliver(1), 3);
        due.is("13 the ack is the number", () -> maps.replica(0, 11), 2);
        due.is("13 deliver the older ACK", () -> maps.deliver(0), 3);
        due.is("13 the ack stays the greater", () -> maps.replica(0, 11), 2);
        due.is("13 the other has no ack", () -> maps.replica(1, 10), 0);
        due.is("13 an ACK is not answered", () -> maps.message(-1, 0), 0);
    }

    private void deliverToDown() {
        DottedMaps maps = new DottedMaps(2);
        maps.raise(0, 1);
        maps.gossip(0, 1);
        maps.lose(0, true);
        maps.power(1, false);
        due.is("13 deliver DATA to one that is down", () -> maps.deliver(0), 0);
        due.is("13 it is gone, and no ACK came", () -> maps.message(-1, 0), 1);
        maps.power(1, true);
        maps.deliver(0);
        maps.power(0, false);
        due.is("13 deliver an ACK to one that is down", () -> maps.deliver(0), 0);
        due.is("13 the ACK is gone", () -> maps.message(-1, 0), 0);
        maps.power(0, true);
        due.is("13 the lost ACK did nothing", () -> maps.replica(0, 11), 0);
    }

    private void deliverFailing() {
        DottedMaps maps = new DottedMaps(2);
        maps.raise(0, 1);
        maps.gossip(0, 1);
        maps.lose(0, true);
        maps.lose(0, true);
        maps.fail(1, 1);
        due.is("13 deliver what fails to be taken in", () -> maps.deliver(0), 0);
        due.is("13 the failing makes it down", () -> maps.replica(1, 0), 0);
        due.is("13 the failing sends no ACK", () -> maps.message(-1, 0), 2);
        maps.power(1, true);
        due.is("13 nothing was taken in", () -> maps.known(1, 0, 0), 0);
        due.is("13 deliver it after that", () -> maps.deliver(0), 1);
        maps.fail(1, 1);
        due.is("13 what changes nothing can't fail", () -> maps.deliver(0), 2);
        due.is("13 and leaves it up", () -> maps.replica(1, 0), 1);
    }

    private void sideBySide() {
        DottedMaps maps = new DottedMaps(2);
        maps.add(0, 1, 3);
        maps.gossip(0, 1);
        maps.deliver(0);
        maps.deliver(0);
        maps.clear(1, 1, 13);
        maps.add(0, 1, 3);
        maps.gossip(0, 1);
        maps.gossip(1, 0);
        due.is("13 join of what was concurrent, one way", () -> maps.deliver(0), 1);
        due.is("13 join of what the add had taken out itself", () -> maps.deliver(0), 2);
        due.is("13 an add that was not seen wins at 0", () -> maps.sees(0, 1, 13), true);
        due.is("13 an add that was not seen wins at 1", () -> maps.sees(1, 1, 13), true);
        due.is("13 one is alive", () -> maps.replica(0, 5), 1);
    }

    private void takenOutStaysOut() {
        DottedMaps maps = new DottedMaps(3);
        maps.raise(0, 1);
        maps.gossip(0, 1);
        maps.gossip(0, 2);
        maps.deliver(0);
        maps.clear(1, 1, 1);
        maps.gossip(1, 2);
        due.is("13 the taking out comes first", () -> maps.deliver(2), 1);
        due.is("13 the flag is known unseen", () -> maps.known(2, 0, 0), 1);
        due.is("13 what was taken out comes later", () -> maps.deliver(0), 2);
        due.is("13 and stays out", () -> maps.sees(2, 1, 1), false);
        due.is("13 the one that put it up does not know yet", () -> maps.sees(0, 1, 1), true);
        maps.gossip(1, 0);
        due.is("13 a taking out of what is known is taken in", () -> maps.deliver(3), 1);
        due.is("13 and takes it out", () -> maps.sees(0, 1, 1), false);
    }

    private void lose() {
        DottedMaps maps = new DottedMaps(2);
        for (boolean twice : new boolean[] {true, false}) {
            for (int k : new int[] {-1, 0, 1, Integer.MAX_VALUE, Integer.MIN_VALUE}) {
                due.is("14 lose " + k + " of none", () -> maps.lose(k, twice), false);
            }
        }
        maps.raise(0, 1);
        maps.gossip(0, 1);
        maps.raise(0, 2);
        maps.gossip(0, 1);
        maps.raise(0, 3);
        maps.gossip(0, 1);
        due.is("14 lose, twice", () -> maps.lose(1, true), true);
        told("14 the copy is behind all others", maps, 3, 1, 0, 1, 2, 2, 2);
        told("14 and the first stays in its place", maps, 1, 1, 0, 1, 2, 2, 2);
        due.is("14 lose one", () -> maps.lose(0, false), true);
        told("14 the next one moves up", maps, 0, 1, 0, 1, 2, 2, 2);
        told("14 and the one behind it", maps, 1, 1, 0, 1, 3, 3, 3);
        due.is("14 three are left", () -> maps.message(-1, 0), 3);
        due.is("14 lose behind the end", () -> maps.lose(3, false), false);
        due.is("14 the lost one is not heard of", () -> maps.replica(1, 4), 0);
        maps.deliver(0);
        due.is("14 an ACK sent twice", () -> maps.lose(2, true), true);
        told("14 the copy of an ACK", maps, 3, 0, 1, 0, 2, 0, 0);
    }

    private void fullPost() {
        DottedMaps maps = new DottedMaps(2);
        maps.raise(0, 1);
        for (int i = 0; i < 23; i++) {
            due.is("12 gossip " + i, () -> maps.gossip(0, 1), 1);
        }
        due.is("14 the 24th by lose", () -> maps.lose(0, true), true);
        due.is("21 24 are under way", () -> maps.message(-1, 0), 24);
        due.refusesState("12 gossip at 24", () -> maps.gossip(0, 1));
        due.refusesState("12 gossip at 24 with nothing to send", () -> maps.gossip(1, 0));
        due.refusesArguments("12 gossip at 24: arguments first", () -> maps.gossip(1, 1));
        due.is("14 lose twice at 24", () -> maps.lose(0, true), false);
        due.is("13 deliver at 24", () -> maps.deliver(23), 1);
        told("13 its place is free for the ACK", maps, 23, 0, 1, 0, 1, 0, 0);
        due.is("13 deliver again", () -> maps.deliver(0), 2);
        due.is("13 24 are under way again", () -> maps.message(-1, 0), 24);
        due.is("14 lose at 24", () -> maps.lose(23, false), true);
        due.is("12 gossip at 23", () -> maps.gossip(1, 0), 1);
        due.refusesState("12 gossip at 24 again", () -> maps.gossip(1, 0));
    }

    private void collect() {
        DottedMaps maps = new DottedMaps(3);
        due.is("15 collect of nothing", () -> maps.collect(0), 0);
        maps.raise(0, 1);
        maps.raise(0, 2);
        maps.gossip(0, 1);
        maps.gossip(0, 2);
        maps.deliver(0);
        maps.deliver(1);
        due.is("15 collect when one has heard", () -> maps.collect(0), 0);
        maps.raise(0, 3);
        maps.deliver(0);
        maps.deliver(0);
        due.is("15 collect when both have heard of two", () -> maps.collect(0), 2);
        due.is("15 the third is left", () -> maps.replica(0, 2), 2);
        due.is("15 collect again", () -> maps.collect(0), 0);
        due.is("15 gossip of what is left", () -> maps.gossip(0, 1), 1);
        told("15 it is one delta", maps, 0, 1, 0, 1, 3, 1, 1);
        due.is("15 collect makes no write", () -> maps.replica(0, 4), 3);
        maps.deliver(0);
        maps.deliver(0);
        due.is("15 collect by the least of the acks", () -> maps.collect(0), 0);
        maps.gossip(0, 2);
        maps.deliver(0);
        maps.deliver(0);
        due.is("15 collect the last", () -> maps.collect(0), 1);
        due.is("15 the buffer is empty", () -> maps.replica(0, 2), 3);
        maps.raise(0, 4);
        due.is("15 and is filled again", () -> maps.replica(0, 2), 3);
    }

    private void collectRefused() {
        DottedMaps maps = new DottedMaps(2);
        for (int r : new int[] {-1, 2, Integer.MAX_VALUE, Integer.MIN_VALUE}) {
            due.refusesArguments("15 collect by " + r, () -> maps.collect(r));
        }
        maps.power(1, false);
        due.refusesState("15 collect when down", () -> maps.collect(1));
    }

    private void message() {
        DottedMaps maps = new DottedMaps(2);
        due.is("21 no messages", () -> maps.message(-1, 0), 0);
        due.is("21 no message 0", () -> maps.message(0, 0), -1);
        maps.add(1, 1, 1);
        maps.add(1, 1, 1);
        maps.add(1, 1, 2);
        maps.gossip(1, 0);
        told("21 DATA", maps, 0, 1, 1, 0, 3, 2, 3, -1);
        for (int what : new int[] {-1, 6, 10, Integer.MAX_VALUE, Integer.MIN_VALUE}) {
            due.is("21 what " + what, () -> maps.message(0, what), -1);
        }
        for (int k : new int[] {-2, 1, 24, Integer.MAX_VALUE, Integer.MIN_VALUE}) {
            due.is("21 message " + k, () -> maps.message(k, 0), -1);
        }
        due.is("21 how many", () -> maps.message(-1, 0), 1);
        due.is("21 how many, for any what", () -> maps.message(-1, 77), 1);
        maps.deliver(0);
        told("21 an ACK", maps, 0, 0, 0, 1, 3, 0, 0, -1);
    }
}
