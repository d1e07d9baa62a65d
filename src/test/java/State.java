/** States that an object can be in, each made anew: where a boundary case should hold in all of them. */
enum State {
    NEW(false),
    PART_OF_THE_WORK_AREA(false),
    FULL_WORK_AREA(false),
    ONE_RUN_SPILLED(false),
    FULL(false),
    RESET_WHILE_FEEDING(false),
    RESET_WHILE_READING(false),
    SEALED_EMPTY(true),
    SEALED(true),
    SEALED_FULL(true),
    ROW(true),
    GROUP(true),
    SKIPPED(true),
    LAST_ROW(true),
    END_OF_ROWS(true),
    END_OF_GROUPS(true);

    /** The objects' W; their S is 9, so that there is room for 12 pairs. */
    static final int W = 4;
    static final int ROOM = 12;

    final boolean reading;

    State(boolean reading) {
        this.reading = reading;
    }

    ExternalSorter make() {
        ExternalSorter x = new ExternalSorter(W, 9);
        x.feedMany(30, -1, -70, pairs());
        if (this == RESET_WHILE_READING) {
            x.seal();
            x.nextRow();
        }
        if (this == RESET_WHILE_FEEDING || this == RESET_WHILE_READING) {
            x.reset();
        }
        if (reading) {
            x.seal();
            read(x);
        }
        return x;
    }

    private int pairs() {
        switch (this) {
            case NEW:
            case SEALED_EMPTY:
                return 0;
            case PART_OF_THE_WORK_AREA:
                return W - 1;
            case FULL_WORK_AREA:
                return W;
            case FULL:
            case SEALED_FULL:
                return ROOM;
            default:
                return W + 1;
        }
    }

    private void read(ExternalSorter x) {
        if (this == ROW) {
            x.nextRow();
        }
        if (this == GROUP) {
            x.nextGroup();
        }
        if (this == SKIPPED) {
            x.skipTo(28);
        }
        if (this == LAST_ROW) {
            x.skipTo(30);
            x.nextRow();
        }
        if (this == END_OF_ROWS) {
            for (int call = 0; call < W + 2; call++) {
                x.nextRow();
            }
        }
        if (this == END_OF_GROUPS) {
            for (int call = 0; call < W + 2; call++) {
                x.nextGroup();
            }
        }
    }
}
