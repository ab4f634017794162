/** What state an object is in ahead of the call that is looked at. */
enum Start {
    /** Just made. */
    NEW,
    /** Of everything some: CELLS, letters, entries, MARKS, a RULE of its own, the PHASE 1. */
    BUSY,
    /** Of everything as much as there can be: CELLS, letters, entries, MARKS, BIRTHS and STAYS. */
    FULL;

    Gliderwright world() {
        Gliderwright world = new Gliderwright();
        switch (this) {
            case NEW:
                break;
            case BUSY:
                makeBusy(world);
                break;
            default:
                fill(world);
                break;
        }
        return world;
    }

    private static void makeBusy(Gliderwright world) {
        Worlds.typed(world, "day").rule();
        for (int entry = 1; entry <= 3; entry++) {
            world.set(3, Worlds.RECORDED[entry]);
            world.record();
        }
        world.record();
        world.mark();
        world.blocks(1, true);
        world.soup(5, 40, 0);
        world.mark();
        world.tick(2);
        Worlds.typed(world, "glide");
    }

    private static void fill(Gliderwright world) {
        for (int entry = 0; entry < 20; entry++) {
            world.set(3, Worlds.RECORDED[entry]);
            world.record();
        }
        for (int mark = 0; mark < 8; mark++) {
            world.set(mark, mark + 1);
            world.blocks(1, mark % 3 == 0);
            world.mark();
        }
        world.soup(0, 100, 0);
        world.table(511, 511);
        Worlds.typed(world, "gliderrr");
    }
}
