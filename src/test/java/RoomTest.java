import com.sun.management.ThreadMXBean;
import java.lang.management.ManagementFactory;

/** All calls of a run live in one room: an object is small, and its calls make nothing but IMAGES. */
public final class RoomTest {
    private static final Check CHECK = new Check();
    private static final ThreadMXBean THREADS = (ThreadMXBean) ManagementFactory.getThreadMXBean();

    private RoomTest() {
    }

    public static void main(String[] args) {
        SlateHands hands = crowded();
        everyCall(hands, 0);
        long before = room();
        SlateHands another = new SlateHands();
        long made = room() - before;
        CHECK.due("a new object has no bytes", another.count(10), 0);
        // Some 25,000 numbers of four bytes, of the 7.3 million that one room has.
        CHECK.due("room of an object: " + made, made < 100_000 ? 1 : 0, 1);
        hands.image(0);
        hands.image(1);
        hands.image(2);
        before = room();
        for (int i = 0; i < 8; i++) {
            everyCall(hands, i);
        }
        long used = room() - before;
        CHECK.due("room of 512 calls: " + used, used < 1000 ? 1 : 0, 1);
        CHECK.finish();
    }

    private static long room() {
        return THREADS.getThreadAllocatedBytes(Thread.currentThread().getId());
    }

    /** As much as a PORT can have. */
    private static SlateHands crowded() {
        StringBuilder text = new StringBuilder("port days 8 law 2 odds 3;" + "house high 3;house high 9;".repeat(4));
        for (int h = 0; h < 8; h++) {
            text.append("way ").append(h).append(' ').append((h + 1) % 8).append(';');
        }
        text.append("way 0 4;way 1 5;way 2 6;way 3 7;").append("carrier at 0 strong 90;".repeat(5));
        text.append(("slate at 0" + " word 3".repeat(6) + ";").repeat(3));
        for (int day = 0; day < 8; day++) {
            text.append("carry 0 0 to ").append((day + 1) % 8).append(" at ").append(day).append(';');
        }
        SlateHands hands = Ports.of(text.toString());
        Ports.row(hands, 0, 0, 3, 3);
        return hands;
    }

    private static void everyCall(SlateHands x, int i) {
        x.anew();
        x.carry(1, 1, 1, 0);
        x.rub(2, i % 6);
        x.fault(0);
        x.house(0);
        x.carrier(0, 0);
        x.word(0, 0);
        x.doors(0);
        x.far(0, 6);
        x.climb(0, 6);
        x.at(0, 8);
        x.lies(0, 8);
        x.left(0, 8);
        x.weight(0, 8);
        x.knows(7, 0, 8);
        x.heard(0, 8);
        x.full(0, 8);
        x.when(7, 0);
        x.done(7);
        x.dones();
        x.why(7);
        x.load(7);
        x.idle(7);
        x.moves(0);
        x.trips(0);
        x.toil(0);
        x.rubbed(0);
        x.gossip();
        x.famous();
        x.brings(0, 0, 6);
        x.saves(1, 0, 6);
        x.can(2, 0);
        x.needs(0, 6);
        x.porter(0, 6);
        x.tells(3, 0, 7);
        x.cart(31, 0, 6);
        x.four(0, 6);
        x.share(0, 0, 0);
        x.block(0);
        x.by(0, 3);
        x.law(0);
        x.firsts(0, 0);
        x.ask(0, 0);
        x.leaves(0, 0);
        x.laws(0, 0);
        x.beside(0);
        x.rests(0, 1, 2);
        x.gets(0, 1, 2, 0, 1);
        x.chance(0, 6, 0);
        x.mean(0, 0);
        x.drawn(i, 1);
        x.luck(i, 20, 0, 6);
        x.count(0);
        x.image(i % 3);
        x.undo();
        x.back(i % 3);
        x.anew();
        x.rate(0, 90 + i);
        x.row(1, 2, 60);
        x.write(1, 59, i);
        x.paste(1, 0, 1, 30, 30);
        x.feed(i, i, i, i, i);
        x.end(0);
    }
}
