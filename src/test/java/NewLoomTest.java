/** Promise 1: a new object. */
public final class NewLoomTest {
    public static void main(String[] args) {
        nothingTold();
        nothingThere();
        keeperPassesNothing();
        objectsApart();
        Due.end();
    }

    private static void nothingTold() {
        HandLoom x = new HandLoom();
        for (int what = 0; what <= 9; what++) {
            Due.is("new told(" + what + ")", x.told(what), 0);
        }
    }

    private static void nothingThere() {
        HandLoom x = new HandLoom();
        for (int frame = 0; frame < 4; frame++) {
            for (int lane = 0; lane < 5; lane++) {
                Due.is("new cut", x.cut(frame, lane), 0);
                Due.is("new ends", x.ends(frame, lane), 0);
                Due.is("new ends told", x.told(0), 1);
            }
        }
        Due.is("new faults", x.told(1), 20);
        Due.is("new cell", x.cell(0, 0), 0);
        Due.is("new cell told", x.told(0), 1);
        Due.is("new unhook", x.unhook(), 0);
        Due.is("new run", x.run(1), HandLoom.NONE);
        Due.is("new spool", x.spool(9), 1);
    }

    private static void keeperPassesNothing() {
        HandLoom x = new HandLoom();
        x.card(0, 0, 0, 0, 0);
        x.thread(1, 0, 1);
        x.card(4, 1, 0, 0, 0);
        Due.is("MISSING not passed over", x.run(1), 0);
        x.unhook();
        x.card(4, 1, 0, 0, 0);
        Due.is("ZERO not passed over", x.run(1), 0);
        x.unhook();
        x.card(2, 1, 0, 0, 0);
        Due.is("EMPTY not passed over", x.run(1), 0);
        x.unhook();
        x.card(3, 1, 0, 1, 0);
        Due.is("OUTSIDE not passed over", x.run(1), 0);
    }

    private static void objectsApart() {
        HandLoom x = new HandLoom();
        HandLoom y = new HandLoom();
        x.thread(0, 0, 2);
        x.cloth(2, 2);
        x.spool(1);
        x.card(0, 0, 0, 0, 0);
        Due.is("other's lane", y.ends(0, 0), 0);
        Due.is("other's cloth", y.snip(0), 0);
        Due.is("other's cloth told", y.told(0), 1);
        Due.is("other's spool", y.told(6), 0);
        Due.is("other's cards", y.told(7), 0);
    }
}
