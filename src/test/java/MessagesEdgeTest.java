/** Promises 12 to 15 and 21 at their edges: acks at and below NEXT, the ends of the buffer, none and 24 messages. */
public final class MessagesEdgeTest {
    private final Due due = new Due();

    public static void main(String[] args) {
        MessagesEdgeTest test = new MessagesEdgeTest();
        test.ackNotBelowNext();
        test.fromTheAckOn();
        test.wholeBuffer();
        test.ackAtTheEndOfTheBuffer();
        test.afterComingUp();
        test.lateAckAfterComingUp();
        test.whatIsSentStays();
        test.twentyFour();
        test.deliverTakesAway();
        test.deliverToDown();
        test.deliverChangesWhatIsKnown();
        test.deliverChangesWhatIsAlive();
        test.deliverChangesNothing();
        test.ackIsGreater();
        test.ackFindsRoom();
        test.deliverFails();
        test.deliverFailsAtTheCheckpoint();
        test.loseInOrder();
        test.loseTwice();
        test.collectBelowTheLeast();
        test.collectOfAFullBuffer();
        test.collectByOthersAlone();
        test.toldOfMessages();
        test.due.end();
    }

    /** Replica 0 of two has counted so many times. */
    private static DottedMaps counted(int many) {
        DottedMaps maps = new DottedMaps(2);
        count(maps, 0, many);
        return maps;
    }

    private static void count(DottedMaps maps, int r, int many) {
        for (int i = 0; i < many; i++) {
            maps.count(r, 1, 1);
        }
    }

    private void told(String label, DottedMaps maps, int k, int... answers) {
        for (int what = 0; what < answers.length; what++) {
            int w = what;
            due.is(label + ", what " + what, () -> maps.message(k, w), answers[what]);
        }
    }

    /** "0 when its ack for q is not below NEXT: nothing is sent." */
    private void ackNotBelowNext() {
        for (int next : new int[] {0, 1, 2, 12, 13, 20}) {
            DottedMaps maps = counted(next);
            Worlds.bring(maps, 0, 1);
            due.is("12 ack at NEXT " + next, () -> maps.replica(0, 11), next);
            due.is("12 gossip with the ack at NEXT " + next, () -> maps.gossip(0, 1), 0);
            due.is("12 sends nothing", () -> maps.message(-1, 0), 0);
            count(maps, 0, 1);
            due.is("12 gossip with the ack 1 below NEXT " + next, () -> maps.gossip(0, 1), 1);
            told("12 sends one delta", maps, 0, 1, 0, 1, next + 1, 1, 1);
        }
    }

    /** "the join of the deltas of its buffer from the number that is its ack on". */
    private void fromTheAckOn() {
        for (int ack = 0; ack <= 12; ack++) {
            for (int more = 1; more <= 12; more++) {
                DottedMaps maps = counted(ack);
                Worlds.bring(maps, 0, 1);
                count(maps, 0, more);
                String at = " from " + ack + ", " + more + " more";
                due.is("12 gossip" + at, () -> maps.gossip(0, 1), 1);
                told("12 sent" + at, maps, 0, 1, 0, 1, ack + more, more, more);
            }
        }
        DottedMaps maps = new DottedMaps(3);
        count(maps, 0, 2);
        Worlds.bring(maps, 0, 1);
        maps.erase(0, 0);
        due.is("12 gossip of a taking out", () -> maps.gossip(0, 1), 1);
        told("12 the taken out are known to it", maps, 0, 1, 0, 1, 3, 0, 2);
        due.is("12 gossip of all three", () -> maps.gossip(0, 2), 1);
        told("12 alive in one, known to the other: out", maps, 1, 1, 0, 2, 3, 0, 2);
    }

    /** "if all these are in the buffer; 2 otherwise": the buffer keeps twelve. */
    private void wholeBuffer() {
        for (int many = 1; many <= 16; many++) {
            DottedMaps maps = counted(many);
            int of = many;
            due.is("12 gossip of " + many, () -> maps.gossip(0, 1), many <= 12 ? 1 : 2);
            told("12 sent of " + many, maps, 0, 1, 0, 1, many, many, many);
            due.is("13 it comes", () -> maps.deliver(0), 1);
            due.is("9 all of it", () -> maps.sum(1, 1), of);
        }
    }

    /** The ack is the number of the first delta of the buffer, or the one before. */
    private void ackAtTheEndOfTheBuffer() {
        for (int ack = 1; ack <= 5; ack++) {
            DottedMaps maps = counted(ack);
            Worlds.bring(maps, 0, 1);
            count(maps, 0, 12);
            int first = ack;
            due.is("12 the first of the buffer", () -> maps.replica(0, 2), first);
            due.is("12 gossip from the first of the buffer", () -> maps.gossip(0, 1), 1);
            told("12 twelve deltas", maps, 0, 1, 0, 1, ack + 12, 12, 12);
            count(maps, 0, 1);
            due.is("12 gossip from before the buffer", () -> maps.gossip(0, 1), 2);
            told("12 the state", maps, 1, 1, 0, 1, ack + 13, ack + 13, ack + 13);
        }
    }

    /** "the buffer is empty (as if all deltas before NEXT had gone from it), all acks are 0". */
    private void afterComingUp() {
        DottedMaps none = new DottedMaps(2);
        Worlds.restart(none, 0);
        due.is("12 gossip after coming up with nothing", () -> none.gossip(0, 1), 0);
        DottedMaps maps = counted(3);
        Worlds.bring(maps, 0, 1);
        due.is("12 gossip before going down", () -> maps.gossip(0, 1), 0);
        Worlds.restart(maps, 0);
        due.is("12 gossip after coming up", () -> maps.gossip(0, 1), 2);
        told("12 it is the state", maps, 0, 1, 0, 1, 3, 3, 3);
        count(maps, 0, 1);
        due.is("12 gossip with one in the buffer", () -> maps.gossip(0, 1), 2);
        told("12 it is the state still", maps, 1, 1, 0, 1, 4, 4, 4);
        maps.lose(1, false);
        due.is("13 the state brings nothing new", () -> maps.deliver(0), 2);
        due.is("13 its ACK comes back", () -> maps.deliver(0), 3);
        due.is("12 gossip from the ack on again", () -> maps.gossip(0, 1), 1);
        told("12 it is one delta", maps, 0, 1, 0, 1, 4, 1, 1);
    }

    /** An ACK that was under way counts after coming up too: NEXT is what it was. */
    private void lateAckAfterComingUp() {
        for (int since = 0; since <= 1; since++) {
            DottedMaps maps = counted(3);
            maps.gossip(0, 1);
            maps.deliver(0);
            count(maps, 0, since);
            Worlds.restart(maps, 0);
            due.is("13 the late ACK", () -> maps.deliver(0), 3);
            due.is("13 the ack is its number", () -> maps.replica(0, 11), 3);
            due.is("12 gossip with " + since + " since", () -> maps.gossip(0, 1), since == 0 ? 0 : 2);
            count(maps, 0, 1);
            due.is("12 gossip with one in the buffer", () -> maps.gossip(0, 1), since == 0 ? 1 : 2);
            told("12 what it sends", maps, since == 0 ? 0 : 1, 1, 0, 1, 4 + since, since == 0 ? 1 : 5);
        }
    }

    /** DATA has the delta that was sent, whatever its sender does then; the state too. */
    private void whatIsSentStays() {
        for (int many : new int[] {2, 20}) {
            DottedMaps maps = counted(many);
            maps.gossip(0, 1);
            maps.erase(0, 0);
            maps.write(0, 2, 5);
            told("12 what is under way stays as it was", maps, 0, 1, 0, 1, many, many, many);
            Worlds.restart(maps, 0);
            maps.power(0, false);
            due.is("13 it comes from one that is down", () -> maps.deliver(0), 1);
            due.is("9 as it was sent", () -> maps.sum(1, 1), many);
            due.is("13 its ACK is lost there", () -> maps.deliver(0), 0);
            due.is("8 what came later is not in it", () -> maps.sees(1, 2, 2), false);
        }
    }

    /** "MESSAGES under way, at most 24, are in the order in which they were sent." */
    private void twentyFour() {
        DottedMaps maps = new DottedMaps(4);
        for (int i = 1; i <= 24; i++) {
            int number = i;
            maps.count(0, 1, 1);
            due.is("21 before message " + i, () -> maps.message(-1, 0), number - 1);
            due.is("12 gossip " + i, () -> maps.gossip(0, 1 + number % 3), i <= 12 ? 1 : 2);
        }
        due.is("21 all of them", () -> maps.message(-1, 0), 24);
        for (int k = 0; k < 24; k++) {
            told("21 in order " + k, maps, k, 1, 0, 1 + (k + 1) % 3, k + 1, k + 1, k + 1);
        }
        due.is("21 no 25th", () -> maps.message(24, 0), -1);
        maps.count(0, 1, 1);
        due.refusesState("12 gossip at 24", () -> maps.gossip(0, 1));
        due.is("14 lose one", () -> maps.lose(11, false), true);
        due.is("12 gossip at 23", () -> maps.gossip(0, 3), 2);
        told("21 it is the last", maps, 23, 1, 0, 3, 25, 25, 25);
        told("21 behind what was the last", maps, 22, 1, 0, 1, 24, 24, 24);
        told("21 the one behind the lost has moved up", maps, 11, 1, 0, 2, 13, 13, 13);
        told("21 the one before it has not", maps, 10, 1, 0, 3, 11, 11, 11);
        due.refusesState("12 gossip at 24 again", () -> maps.gossip(0, 1));
    }

    /** "Delivers message k, which is under way no more": the first, one between, the last. */
    private void deliverTakesAway() {
        for (int k = 0; k < 4; k++) {
            DottedMaps maps = new DottedMaps(3);
            for (int i = 0; i < 4; i++) {
                maps.count(0, 1, 1);
                maps.gossip(0, 1 + i % 2);
            }
            int at = k;
            due.is("13 deliver " + k, () -> maps.deliver(at), 1);
            due.is("13 one goes, its ACK comes", () -> maps.message(-1, 0), 4);
            for (int i = 0; i < 3; i++) {
                int number = i < k ? i + 1 : i + 2;
                told("13 what is left of " + k, maps, i, 1, 0, 1 + (number - 1) % 2, number, number, number);
            }
            told("13 the ACK is the last", maps, 3, 0, 1 + k % 2, 0, k + 1, 0, 0);
            due.refusesArguments("13 deliver behind the last", () -> maps.deliver(4));
            due.is("13 deliver the ACK", () -> maps.deliver(3), 3);
            due.is("13 an ACK is not answered", () -> maps.message(-1, 0), 3);
            due.is("13 the ack is the number", () -> maps.replica(0, 11 + at % 2), k + 1);
            due.is("13 the other is not", () -> maps.replica(0, 12 - at % 2), 0);
        }
    }

    /** "if the receiver is down, it is lost": DATA and an ACK. */
    private void deliverToDown() {
        due.differ("13 DATA to one that is down is but lost", Due.after(Worlds::down, m -> m.lose(4, false)),
            Due.after(Worlds::down, m -> m.deliver(4)));
        due.differ("13 an ACK to one that is down is but lost", Due.after(Worlds::down, m -> m.lose(0, false)),
            Due.after(Worlds::down, m -> m.deliver(0)));
        due.is("13 the first is an ACK to 0", () -> 10 * Worlds.down().message(0, 0) + Worlds.down().message(0, 2), 0);
        due.is("13 deliver it when down", () -> Worlds.down().deliver(0), 0);
        due.is("13 deliver it when up", () -> Worlds.busy().deliver(0), 3);
        due.is("13 the last is DATA to 0", () -> 10 * Worlds.down().message(4, 0) + Worlds.down().message(4, 2), 10);
        due.is("13 deliver that when down", () -> Worlds.down().deliver(4), 0);
        due.is("13 deliver that when up", () -> Worlds.busy().deliver(4), 1);
        DottedMaps maps = counted(1);
        maps.gossip(0, 1);
        maps.power(1, false);
        due.is("13 DATA to one that is down", () -> maps.deliver(0), 0);
        due.is("13 no ACK goes back", () -> maps.message(-1, 0), 0);
        due.is("13 no write is made", () -> maps.replica(1, 4), 0);
    }

    /** "would change the receiver's state (in what is alive or known)": known alone. */
    private void deliverChangesWhatIsKnown() {
        DottedMaps maps = counted(1);
        maps.clear(0, 1, 4);
        maps.gossip(0, 1);
        told("13 known, not alive", maps, 0, 1, 0, 1, 2, 0, 1);
        due.is("13 deliver it", () -> maps.deliver(0), 1);
        due.is("20 it is known", () -> maps.known(1, 0, 0), 1);
        due.is("20 it is not alive", () -> maps.known(1, 0, 3), 0);
        due.is("19 it is in the log", () -> maps.replica(1, 3), 1);
        due.is("19 NEXT has grown", () -> maps.replica(1, 1), 1);
    }

    /** Alive alone: what was known is taken out. */
    private void deliverChangesWhatIsAlive() {
        DottedMaps maps = counted(2);
        Worlds.bring(maps, 0, 1);
        maps.clear(0, 1, 4);
        maps.gossip(0, 1);
        due.is("13 deliver a taking out", () -> maps.deliver(0), 1);
        due.is("20 as many are known as before", () -> maps.known(1, 0, 0), 2);
        due.is("20 none is alive", () -> maps.known(1, 0, 3), 0);
        due.is("19 NEXT has grown", () -> maps.replica(1, 1), 2);
    }

    /** "2 nothing changed": no write, no delta taken in, but an ACK goes back. */
    private void deliverChangesNothing() {
        DottedMaps maps = counted(2);
        maps.gossip(0, 1);
        maps.lose(0, true);
        maps.lose(0, true);
        maps.deliver(0);
        maps.deliver(2);
        maps.fail(1, 1);
        due.is("13 deliver it again", () -> maps.deliver(0), 2);
        told("13 an ACK goes back", maps, 1, 0, 1, 0, 2, 0, 0);
        due.is("13 NEXT is as before", () -> maps.replica(1, 1), 1);
        due.is("13 no write is made", () -> maps.replica(1, 4), 1);
        due.is("13 it is up", () -> maps.replica(1, 0), 1);
        due.refusesState("13 the failure is still set", () -> maps.clear(1, 1, 4));
        maps.power(1, true);
        maps.clear(1, 1, 4);
        due.is("13 what has been taken out does not come again", () -> maps.deliver(0), 2);
        due.is("9 and stays out", () -> maps.sum(1, 1), 0);
    }

    /** "becomes the number, if that is greater": lesser, the same, greater. */
    private void ackIsGreater() {
        DottedMaps maps = new DottedMaps(2);
        for (int i = 0; i < 3; i++) {
            maps.count(0, 1, 1);
            maps.gossip(0, 1);
        }
        for (int i = 0; i < 3; i++) {
            maps.deliver(0);
        }
        maps.lose(1, true);
        due.is("13 the ACK of 2", () -> maps.deliver(1), 3);
        due.is("13 is greater than 0", () -> maps.replica(0, 11), 2);
        due.is("13 the ACK of 1", () -> maps.deliver(0), 3);
        due.is("13 is lesser", () -> maps.replica(0, 11), 2);
        due.is("13 the ACK of 2 again", () -> maps.deliver(1), 3);
        due.is("13 is the same", () -> maps.replica(0, 11), 2);
        due.is("13 the ACK of 3", () -> maps.deliver(0), 3);
        due.is("13 is greater", () -> maps.replica(0, 11), 3);
        due.is("13 no writes for them", () -> maps.replica(0, 4), 3);
    }

    /** "if there are fewer than 24 messages": the delivered one is under way no more. */
    private void ackFindsRoom() {
        for (int many : new int[] {22, 23, 24}) {
            DottedMaps maps = counted(1);
            for (int i = 0; i < many; i++) {
                maps.gossip(0, 1);
            }
            due.is("13 deliver of " + many, () -> maps.deliver(0), 1);
            due.is("13 as many are under way", () -> maps.message(-1, 0), many);
            told("13 the last is the ACK", maps, many - 1, 0, 1, 0, 1, 0, 0);
            due.is("13 deliver what changes nothing", () -> maps.deliver(0), 2);
            due.is("13 as many are under way still", () -> maps.message(-1, 0), many);
            told("13 the last is an ACK again", maps, many - 1, 0, 1, 0, 1, 0, 0);
        }
    }

    /** "if that fails, nothing more happens": the log. */
    private void deliverFails() {
        due.is("13 deliver that fails", () -> {
            DottedMaps maps = Worlds.busy();
            maps.fail(0, 1);
            return maps.deliver(4) * 10 + maps.replica(0, 0);
        }, 0);
        due.differ("13 a failure in the log leaves a lost message and one down",
            Due.after(Worlds::down, m -> m.lose(4, false)),
            Due.after(Worlds::busy, m -> m.fail(0, 1) ? m.deliver(4) : -1),
            "replica(0, 4): 10, 11");
    }

    /** The checkpoint before it, and the log after that. */
    private void deliverFailsAtTheCheckpoint() {
        due.is("13 the checkpoint fails", () -> {
            DottedMaps maps = Worlds.logged();
            maps.fail(0, 1);
            return maps.deliver(0) * 10 + maps.replica(0, 0);
        }, 0);
        due.differ("13 it leaves slot 0 not whole",
            Due.after(Worlds::logged, m -> m.lose(0, false) && m.power(0, false)),
            Due.after(Worlds::logged, m -> m.fail(0, 1) ? m.deliver(0) : -1),
            "replica(0, 4): 9, 10", "replica(0, 8): 1, 0");
        due.differ("13 the log fails after the checkpoint",
            Due.after(Worlds::logged, m -> m.lose(0, false) && m.checkpoint(0) == 8 && m.power(0, false)),
            Due.after(Worlds::logged, m -> m.fail(0, 2) ? m.deliver(0) : -1),
            "replica(0, 4): 10, 11");
    }

    /** "Message k is lost": the first, one between, the last, the only one. */
    private void loseInOrder() {
        for (int k = 0; k < 4; k++) {
            DottedMaps maps = new DottedMaps(2);
            for (int i = 0; i < 4; i++) {
                maps.count(0, 1, 1);
                maps.gossip(0, 1);
            }
            int at = k;
            due.is("14 lose " + k, () -> maps.lose(at, false), true);
            due.is("14 three are left", () -> maps.message(-1, 0), 3);
            for (int i = 0; i < 3; i++) {
                int number = i < k ? i + 1 : i + 2;
                told("14 what is left of " + k, maps, i, 1, 0, 1, number, number, number);
            }
            due.is("14 nothing is written", () -> maps.replica(1, 4), 0);
        }
        DottedMaps maps = counted(1);
        due.is("14 lose of none", () -> maps.lose(0, false), false);
        maps.gossip(0, 1);
        due.is("14 lose behind the only one", () -> maps.lose(1, false), false);
        due.is("14 lose the only one", () -> maps.lose(0, false), true);
        due.is("14 none is left", () -> maps.message(-1, 0), 0);
        due.is("14 lose of none again", () -> maps.lose(0, false), false);
    }

    /** "(twice) sent once more, behind all others: true; false .. for twice, there are 24". */
    private void loseTwice() {
        DottedMaps none = new DottedMaps(2);
        due.is("14 lose twice of none", () -> none.lose(0, true), false);
        for (int many : new int[] {1, 2, 22, 23, 24}) {
            DottedMaps maps = new DottedMaps(2);
            for (int i = 0; i < many; i++) {
                maps.count(0, 1, 1);
                maps.gossip(0, 1);
            }
            boolean room = many < 24;
            due.is("14 lose twice the last of " + many, () -> maps.lose(many - 1, true), room);
            due.is("14 as many then", () -> maps.message(-1, 0), room ? many + 1 : 24);
            for (int k = 0; k < many; k++) {
                told("14 the others stay", maps, k, 1, 0, 1, k + 1, k + 1, k + 1);
            }
            if (room) {
                told("14 the copy", maps, many, 1, 0, 1, many, many, many);
                due.is("14 lose twice the first", () -> maps.lose(0, true), many < 23);
            }
        }
        DottedMaps maps = counted(3);
        maps.gossip(0, 1);
        maps.deliver(0);
        due.is("14 lose an ACK twice", () -> maps.lose(0, true), true);
        told("14 the ACK", maps, 0, 0, 1, 0, 3, 0, 0);
        told("14 its copy", maps, 1, 0, 1, 0, 3, 0, 0);
        maps.erase(0, 0);
        maps.gossip(0, 1);
        maps.lose(2, true);
        due.is("14 a copy is delivered", () -> maps.deliver(3), 1);
        due.is("14 and the first then", () -> maps.deliver(2), 2);
        due.is("14 both are answered", () -> maps.message(-1, 0), 4);
    }

    /** "whose numbers are below the least of its acks: how many": that number itself stays. */
    private void collectBelowTheLeast() {
        for (int r = 0; r < 3; r++) {
            for (int one = 0; one <= 4; one++) {
                for (int two = 0; two <= 4; two++) {
                    collectBelow(r, one, two);
                }
            }
        }
    }

    /** Replica r of three has counted four times; the others have heard of so many of these. */
    private void collectBelow(int r, int one, int two) {
        DottedMaps maps = new DottedMaps(3);
        int q = (r + 1) % 3;
        for (int n = 1; n <= 4; n++) {
            maps.count(r, 1, 1);
            if (n == one) {
                Worlds.bring(maps, r, q);
            }
            if (n == two) {
                Worlds.bring(maps, r, (r + 2) % 3);
            }
        }
        int least = Math.min(one, two);
        String by = " at " + r + " by acks " + one + " and " + two;
        due.is("15 collect" + by, () -> maps.collect(r), least);
        due.is("15 the first of the buffer" + by, () -> maps.replica(r, 2), least);
        due.is("15 collect again" + by, () -> maps.collect(r), 0);
        due.is("15 NEXT is as before" + by, () -> maps.replica(r, 1), 4);
        due.is("15 the log is as before" + by, () -> maps.replica(r, 3), 4);
        due.is("15 all is alive" + by, () -> maps.replica(r, 5), 4);
        due.is("12 gossip goes on" + by, () -> maps.gossip(r, q), one == 4 ? 0 : 1);
        due.is("12 with what is left" + by, () -> maps.message(0, 4), one == 4 ? -1 : 4 - one);
    }

    /** Of deltas that have gone already none is dropped once more. */
    private void collectOfAFullBuffer() {
        for (int ack : new int[] {1, 2, 3, 4, 14}) {
            DottedMaps maps = counted(ack);
            Worlds.bring(maps, 0, 1);
            count(maps, 0, 14 - ack);
            due.is("15 the first of the buffer is 2", () -> maps.replica(0, 2), 2);
            due.is("15 collect by ack " + ack, () -> maps.collect(0), Math.max(0, ack - 2));
            due.is("15 the first after that", () -> maps.replica(0, 2), Math.max(2, ack));
            count(maps, 0, 1);
            due.is("15 and one more in the buffer", () -> maps.replica(0, 2), Math.max(3, ack));
        }
        DottedMaps maps = counted(5);
        Worlds.bring(maps, 0, 1);
        Worlds.restart(maps, 0);
        due.is("15 collect after coming up", () -> maps.collect(0), 0);
        count(maps, 0, 1);
        due.is("15 collect with acks of 0", () -> maps.collect(0), 0);
        due.is("15 what has come since is there", () -> maps.replica(0, 2), 5);
    }

    /** Its own ack, 0 for ever, does not count; of four replicas all three others do, whoever is the last. */
    private void collectByOthersAlone() {
        for (int r = 0; r < 4; r++) {
            for (int turn = 0; turn < 3; turn++) {
                DottedMaps maps = new DottedMaps(4);
                int by = r;
                maps.count(r, 1, 1);
                for (int i = 0; i < 3; i++) {
                    int q = (r + 1 + (turn + i) % 3) % 4;
                    due.is("15 collect before " + q + " has heard of " + r, () -> maps.collect(by), 0);
                    Worlds.bring(maps, r, q);
                }
                due.is("15 collect when all have heard", () -> maps.collect(by), 1);
                due.is("15 the buffer is empty", () -> maps.replica(by, 2), 1);
                due.is("19 its own ack", () -> maps.replica(by, 10 + by), 0);
            }
        }
    }

    /** "4 how many entries of its delta are alive (0 for an ACK), 5 how many dots are known to it". */
    private void toldOfMessages() {
        DottedMaps maps = new DottedMaps(4);
        maps.add(3, 4, 9);
        maps.add(3, 4, 8);
        maps.clear(3, 4, 19);
        maps.gossip(3, 2);
        told("21 DATA", maps, 0, 1, 3, 2, 3, 1, 2, -1);
        maps.deliver(0);
        told("21 an ACK", maps, 0, 0, 2, 3, 3, 0, 0, -1);
        due.is("21 how many", () -> maps.message(-1, 0), 1);
        due.is("21 below -1", () -> maps.message(-2, 0), -1);
        maps.deliver(0);
        due.is("21 none is left", () -> maps.message(-1, 0), 0);
        told("21 no message", maps, 0, -1, -1, -1, -1, -1, -1, -1);
    }
}
