/** Promises 2 and 5: feed and count. */
final class FeedTest {
    public static void main(String[] args) {
        GateBox x = new GateBox();
        for (int i = 1; i <= 35; i++) {
            Check.due("feed " + i, x.feed(0x20202020, 0x20202020, 0x20202020, 0x20202020, 0x20202020), 20 * i);
            Check.due("count(0)", x.count(0), 20 * i);
        }
        Check.due("feed of a full tape", x.feed(0, 0, 0, 0, 0), -1);
        Check.due("count(0) of a full tape", x.count(0), 700);
        Check.due("700 blanks", x.gate(0, 700), 0);
        Check.due("count(0) behind gate", x.count(0), 0);

        // keeper;glass;card 7; told by numbers, the highest byte first
        x.feed(0x6b656570, 0x65723b67, 0x6c617373, 0x3b636172, 0x6420373b);
        Check.due("gate", x.gate(0, 20), 0);
        Check.due("keeper", x.about(0, 3), 1);
        Check.due("glass", x.about(0, 4), 1);
        Check.due("card", x.about(0, 2), 7);

        x.feed(0x20202020, 0x202020ff, 0, 0, 0);
        Check.due("a byte of 255", x.gate(0, 20), 1);
        Check.due("its place", x.fault(), 7);
        x.feed(0x20208020, 0, 0, 0, 0);
        Check.due("a byte of 128", x.gate(0, 20), 1);
        Check.due("its place", x.fault(), 2);
        Check.due("count(1)", x.count(1), 2);
        Check.due("count(2)", x.count(2), 0);
        Check.due("count(3)", x.count(3), 0);
        Check.noSuch("count(4)", () -> x.count(4));
        Check.noSuch("count(-1)", () -> x.count(-1));
        Check.end();
    }
}
