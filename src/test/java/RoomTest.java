import java.lang.management.ManagementFactory;

/** That only the constructor makes objects: all calls of a run live in one room. */
public final class RoomTest {
    private static final long[] answers = new long[1];

    public static void main(String[] args) {
        com.sun.management.ThreadMXBean threads = (com.sun.management.ThreadMXBean) ManagementFactory.getThreadMXBean();
        long me = Thread.currentThread().getId();
        LastCalled x = new LastCalled();
        dearest(x);
        threads.getThreadAllocatedBytes(me);
        long before = threads.getThreadAllocatedBytes(me);
        LastCalled y = new LastCalled();
        long made = threads.getThreadAllocatedBytes(me);
        dearest(y);
        long after = threads.getThreadAllocatedBytes(me);
        Due.holds("a new object stays under 16 KB: " + (made - before), made - before < 16384);
        // the counting itself may make a little, a call that made something would make it hundreds of times
        Due.holds("calls make nothing: " + (after - made), after - made < 2048);
        Due.end();
    }

    private static void dearest(LastCalled x) {
        long sum = 0;
        String text = "hamlet 4;one 0 0;one 1 9;one 2 4;one 3 5;one 4 6;one 5 2;one 0 7;bears 1 0;none 3;";
        for (int i = 0; i < text.length(); i++) {
            sum += x.type(text.charAt(i));
        }
        sum += x.read();
        for (int i = 0; i < 25; i++) {
            sum += x.own(i % 3) + x.calls(i % 7, (i + 3) % 7, i % 2) + x.weeks(i, 60) + x.trippers(i % 7, 0, i % 10, 3);
            sum += x.call(i % 7, i % 10) + x.goes(i % 7, i % 10) + x.day() + x.undo() + x.note(i % 7, 3, i, 0, 1);
            sum += x.is(i % 7) + x.stood(i % 7) + x.next(i % 7) + x.deed(i % 7, 5) + x.owes(i % 7) + x.digest();
            sum += x.image(i % 2) + x.from(i % 2) + x.read();
        }
        answers[0] += sum;
    }
}
