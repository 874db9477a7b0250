/** Promise 1: a new object. */
final class NewTest {
    public static void main(String[] args) {
        GateBox x = new GateBox();
        int[] due = {0, 1, GateBox.NONE, 0, 0, 0, 0, 100, 0, 0, 0, 0, 0, 0};
        for (int gate = 0; gate < 2; gate++) {
            for (int what = 0; what < due.length; what++) {
                Check.due("about(" + gate + ", " + what + ")", x.about(gate, what), due[what]);
            }
        }
        Check.due("NONE", GateBox.NONE, -1);
        Check.due("fault()", x.fault(), -1);
        for (int what = 0; what < 4; what++) {
            Check.due("count(" + what + ")", x.count(what), 0);
        }
        Check.due("restore()", x.restore(), false);
        Check.end();
    }
}
