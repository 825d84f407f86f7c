/** Promises 21 and 22: shelves that are kept and held against what is now. */
public final class CataloguesTest {
    private static final int UNKNOWN = MeetingsAbove.UNKNOWN, NOT = MeetingsAbove.NOT;

    public static void main(String[] args) {
        keep();
        keepOfNothing();
        differsInEach();
        differsByNumbers();
        shelvesAreApart();
        Due.end();
    }

    private static MeetingsAbove three() {
        MeetingsAbove m = new MeetingsAbove();
        for (int t = 0; t < 3; t++) {
            m.thing(t, 100 * t, 0, 0, t);
            m.place(t, 100 * t, 10, 0);
        }
        return m;
    }

    private static void keep() {
        MeetingsAbove m = three();
        m.gone(1);
        Due.is("what is gone is kept too", m.keep(0), 3);
        Due.is("nothing differs", m.differs(0), 0);
        Due.is("no such shelf", m.keep(2), UNKNOWN);
        Due.is("no such shelf", m.keep(-1), UNKNOWN);
        Due.is("no such shelf", m.differs(2), UNKNOWN);
        Due.is("no such shelf", m.differs(-1), UNKNOWN);
        Due.is("the other shelf is empty", m.differs(1), NOT);
        Due.is("the other shelf", m.keep(1), 3);
        Due.is("is so no more", m.differs(1), 0);
        m.rule(0, 3000);
        m.dot(0, 0, 0, 0);
        m.notice(0, 2);
        Due.is("only things count", m.differs(0), 0);
    }

    private static void keepOfNothing() {
        MeetingsAbove m = new MeetingsAbove();
        Due.is("none", m.keep(0), 0);
        Due.is("a shelf with no things is empty", m.differs(0), NOT);
        m.thing(0, 0, 0, 0, 0);
        Due.is("it stays so", m.differs(0), NOT);
        Due.is("until there is one", m.keep(0), 1);
        Due.is("then it is not", m.differs(0), 0);
    }

    private static void differsInEach() {
        MeetingsAbove m = three();
        m.keep(0);
        m.burn(0, 0, 0, 0, 1);
        Due.is("a place", m.differs(0), 1);
        m.burn(0, 0, 0, 0, -1);
        Due.is("as it was", m.differs(0), 0);
        m.place(1, 0, 0, 0);
        Due.is("how many places", m.differs(0), 1);
        m.gone(2);
        Due.is("gone", m.differs(0), 2);
        m.gone(1);
        Due.is("one that differs twice", m.differs(0), 2);
        m.keep(0);
        Due.is("kept anew", m.differs(0), 0);
        Due.is("a refused call changes nothing", m.burn(0, 0, 3, 0, 0), MeetingsAbove.OUTSIDE);
        Due.is("a refused call changes nothing", m.differs(0), 0);
    }

    private static void differsByNumbers() {
        MeetingsAbove m = three();
        m.keep(0);
        m.thing(0, 0, 0, 0, 0);
        Due.is("one that the shelf has not", m.differs(0), 1);
        m.breaks(0, 0, 6);
        Due.is("parts, and the whole that is gone", m.differs(0), 8);
        m.keep(0);
        Due.is("all of them", m.keep(1), 10);
        m.gone(9);
        Due.is("the last one", m.differs(0), 1);
    }

    private static void shelvesAreApart() {
        MeetingsAbove m = three();
        m.keep(1);
        m.burn(2, 2, 1, 1, 1);
        m.keep(0);
        Due.is("the newer shelf", m.differs(0), 0);
        Due.is("the older shelf", m.differs(1), 1);
        m.burn(2, 2, -1, -1, -1);
        Due.is("the newer shelf", m.differs(0), 1);
        Due.is("the older shelf", m.differs(1), 0);
    }
}
