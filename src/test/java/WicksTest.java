/** Promises 1 to 13. */
public final class WicksTest {
    public static void main(String[] args) {
        Check.watch();
        newObject();
        addWick();
        lightAndSnuff();
        addWax();
        wicksAndTheirWax();
        wickByWax();
        nextMask();
        rowsUntilDark();
        Check.end();
    }

    private static void newObject() {
        CandleLoom loom = new CandleLoom();
        Check.same("new: wicks", 0, loom.wickCount());
        Check.same("new: lit", 0, loom.litCount());
        Check.same("new: rows", 0, loom.rowCount());
        Check.same("new: knots", 0, loom.knotCount());
        Check.same("new: left burn", 0, loom.burn('l'));
        Check.same("new: right burn", 0, loom.burn('r'));
        Check.same("new: left heat", 0, loom.heat('l'));
        Check.same("new: right heat", 0, loom.heat('r'));
        Check.same("new: woven", 0, loom.wovenTotal());
        Check.same("new: wax", 0, loom.waxUsed());
        Check.same("new: undo", 0, loom.undoCount());
        Check.fails("new: line", Check.INDEX, () -> loom.lineCharacter(0));
        Check.fails("new: fault", Check.NONE, () -> loom.faultPosition());
        Check.fails("new: denial", Check.NONE, () -> loom.denial());
        Check.fails("new: snapshot", Check.STATE, () -> loom.restoreSnapshot());
    }

    private static void addWick() {
        CandleLoom loom = new CandleLoom();
        Check.fails("colour -1", Check.RANGE, () -> loom.addWick(-1, 1, 1));
        Check.fails("colour 8", Check.RANGE, () -> loom.addWick(8, 1, 1));
        Check.fails("mask 0", Check.RANGE, () -> loom.addWick(0, 0, 1));
        Check.fails("mask 65536", Check.RANGE, () -> loom.addWick(0, 65536, 1));
        Check.fails("mask -1", Check.RANGE, () -> loom.addWick(0, -1, 1));
        Check.fails("wax -1", Check.RANGE, () -> loom.addWick(0, 1, -1));
        Check.fails("wax 100", Check.RANGE, () -> loom.addWick(0, 1, 100));
        Check.fails("smallest int", Check.RANGE, () -> loom.addWick(Integer.MIN_VALUE, 1, 1));
        Check.same("none added", 0, loom.wickCount());
        Check.same("least numbers", 0, loom.addWick(0, 1, 0));
        Check.same("greatest numbers", 1, loom.addWick(7, 65535, 99));
        Check.no("initially not lit", loom.isLit(1));
        Check.same("wax 99", 99, loom.wax(1));
        for (int i = 2; i < 8; i++) {
            Check.same("wick " + i, i, loom.addWick(i, i, i));
        }
        Check.denied("ninth wick", loom, 1, 8, () -> loom.addWick(0, 1, 1));
        Check.fails("range before limit", Check.RANGE, () -> loom.addWick(8, 1, 1));
        Check.same("still 8", 8, loom.wickCount());
    }

    private static void lightAndSnuff() {
        CandleLoom loom = new CandleLoom();
        Check.fails("light none", Check.INDEX, () -> loom.light(0));
        Check.fails("snuff none", Check.INDEX, () -> loom.snuff(0));
        loom.addWick(1, 1, 5);
        loom.addWick(2, 2, 0);
        loom.addWick(3, 4, 1);
        Check.fails("light -1", Check.INDEX, () -> loom.light(-1));
        Check.fails("light 3", Check.INDEX, () -> loom.light(3));
        Check.fails("snuff -1", Check.INDEX, () -> loom.snuff(-1));
        Check.fails("snuff 3", Check.INDEX, () -> loom.snuff(3));
        Check.same("light 0", 1, loom.light(0));
        Check.same("light 2", 2, loom.light(2));
        Check.denied("light 0 again", loom, 5, 1, () -> loom.light(0));
        Check.denied("light without wax", loom, 6, 1, () -> loom.light(1));
        Check.denied("snuff what is not lit", loom, 5, 0, () -> loom.snuff(1));
        Check.same("snuff 0", 1, loom.snuff(0));
        Check.no("0 is out", loom.isLit(0));
        Check.yes("2 is lit", loom.isLit(2));
        Check.same("wax stays", 5, loom.wax(0));
        loom.weave(1);
        Check.no("goes out without wax", loom.isLit(2));
        Check.denied("light burnt down", loom, 6, 2, () -> loom.light(2));
        Check.denied("snuff burnt down", loom, 5, 0, () -> loom.snuff(2));
    }

    private static void addWax() {
        CandleLoom loom = new CandleLoom();
        Check.fails("wax for none", Check.INDEX, () -> loom.addWax(0, 1));
        loom.addWick(1, 1, 0);
        Check.fails("index before range", Check.INDEX, () -> loom.addWax(1, 0));
        Check.fails("index -1", Check.INDEX, () -> loom.addWax(-1, 1));
        Check.fails("amount 0", Check.RANGE, () -> loom.addWax(0, 0));
        Check.fails("amount 51", Check.RANGE, () -> loom.addWax(0, 51));
        Check.fails("amount of the greatest int", Check.RANGE, () -> loom.addWax(0, Integer.MAX_VALUE));
        Check.same("amount 50", 50, loom.addWax(0, 50));
        Check.denied("100", loom, 1, 99, () -> loom.addWax(0, 50));
        Check.same("99", 99, loom.addWax(0, 49));
        Check.denied("100 by 1", loom, 1, 99, () -> loom.addWax(0, 1));
        Check.fails("range before limit", Check.RANGE, () -> loom.addWax(0, 51));
        Check.no("wax does not light", loom.isLit(0));
        Check.same("wax is kept", 99, loom.wax(0));
    }

    private static void wicksAndTheirWax() {
        CandleLoom loom = Check.lit(1, 1, 3, 2, 2, 5);
        loom.addWick(3, 4, 7);
        Check.same("wicks", 3, loom.wickCount());
        Check.same("lit", 2, loom.litCount());
        loom.weave(3);
        Check.same("wicks", 3, loom.wickCount());
        Check.same("lit", 1, loom.litCount());
        Check.same("wax 0", 0, loom.wax(0));
        Check.same("wax 1", 2, loom.wax(1));
        Check.same("wax 2", 7, loom.wax(2));
        Check.no("0 lit", loom.isLit(0));
        Check.yes("1 lit", loom.isLit(1));
        Check.no("2 lit", loom.isLit(2));
        Check.fails("isLit -1", Check.INDEX, () -> loom.isLit(-1));
        Check.fails("isLit 3", Check.INDEX, () -> loom.isLit(3));
        Check.fails("wax -1", Check.INDEX, () -> loom.wax(-1));
        Check.fails("wax 3", Check.INDEX, () -> loom.wax(3));
    }

    private static void wickByWax() {
        CandleLoom loom = new CandleLoom();
        Check.fails("no wicks", Check.NONE, () -> loom.wickByWax(0));
        int[] waxes = {5, 9, 9, 2, 2, 0};
        for (int wax : waxes) {
            loom.addWick(0, 1, wax);
        }
        loom.light(0);
        loom.light(3);
        loom.light(4);
        int[] due = {0, 3, 4, 1, 2, 5};
        for (int rank = 0; rank < due.length; rank++) {
            Check.same("rank " + rank, due[rank], loom.wickByWax(rank));
        }
        Check.fails("rank -1", Check.NONE, () -> loom.wickByWax(-1));
        Check.fails("rank 6", Check.NONE, () -> loom.wickByWax(6));
    }

    private static void nextMask() {
        CandleLoom loom = new CandleLoom();
        Check.same("no wicks", 0, loom.nextMask());
        loom.addWick(0, 65535, 99);
        loom.addWick(0, 255, 99);
        Check.same("none lit", 0, loom.nextMask());
        loom.light(0);
        Check.same("one", 65535, loom.nextMask());
        loom.light(1);
        Check.same("exclusive or", 65280, loom.nextMask());
        loom.snuff(1);
        loom.weave(10);
        Check.same("two columns burnt on each side", 65535 & ~3 & ~49152, loom.nextMask());
        loom.weave(10);
        Check.same("four columns burnt on each side", 4080, loom.nextMask());
        loom.snuff(0);
        Check.same("dark", 0, loom.nextMask());
    }

    private static void rowsUntilDark() {
        CandleLoom loom = new CandleLoom();
        Check.same("no wicks", 0, loom.rowsUntilDark());
        Check.same("no wicks, by wax", 0, loom.rowsUntilDarkByWax());
        loom.addWick(0, 2, 4);
        loom.addWick(0, 2, 99);
        loom.addWick(0, 2, 6);
        Check.same("none lit", 0, loom.rowsUntilDark());
        Check.same("none lit, by wax", 0, loom.rowsUntilDarkByWax());
        loom.light(0);
        loom.light(2);
        Check.same("two lit", 6, loom.rowsUntilDark());
        Check.same("two lit, by wax", 6, loom.rowsUntilDarkByWax());
        loom.weave(5);
        Check.same("one row left", 1, loom.rowsUntilDark());
        Check.same("one row left, by wax", 1, loom.rowsUntilDarkByWax());
        loom.light(1);
        Check.same("more rows than the cloth can have", 99, loom.rowsUntilDark());
        Check.same("more rows than the cloth can have, by wax", 99, loom.rowsUntilDarkByWax());
        Check.same("nothing is woven by asking", 5, loom.rowCount());
        CandleLoom first = Check.lit(0, 2, 8, 0, 2, 3);
        Check.same("the first wick lasts longest", 8, first.rowsUntilDark());
        Check.same("the first wick lasts longest, by wax", 8, first.rowsUntilDarkByWax());
    }
}
