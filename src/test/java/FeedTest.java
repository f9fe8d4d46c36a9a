/** Promise 2: feed. */
public final class FeedTest {
    public static void main(String[] args) {
        Probe p = new Probe();
        for (int k = 1; k <= 15; k++) {
            Probe.due("feed " + k, p.x.feed(0x28736173, 1, 2, 3, 4), 20 * k);
            Probe.due("bytes", p.x.count(5), 20 * k);
        }
        Probe.due("a sixteenth", p.x.feed(0, 0, 0, 0, 0), -1);
        Probe.due("the tape is as it was", p.x.count(5), 300);

        Probe order = new Probe();
        order.x.feed(0x31323334, 0, 0, 0, 0);
        order.x.program(4);
        Probe.due("the highest byte first", order.x.node(0, 2), 1234);
        order.x.feed(0x20202020, 0x20202020, 0x20202020, 0x20202020, 0x20202020);
        Probe.due("behind what is there", order.x.feed(0x37202020, 0, 0, 0, 0), 40);
        Probe.due("a term over two feeds", order.x.program(24), 1);
        Probe.due("its number", order.x.node(0, 2), 7);

        Probe negative = new Probe();
        negative.x.feed(0xff202020, 0, 0, 0, 0);
        Probe.due("a byte of 255 is a token", negative.x.program(1), -1000);
        negative.x.feed(0x20202033, 0x20800000, 0, 0, 0);
        Probe.due("a byte of 128 is a token", negative.x.program(6), -1005);
        Probe.end();
    }
}
