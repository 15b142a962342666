/** Rivers that several tests begin with, each time a new object. */
final class Rivers {
    private Rivers() {
    }

    /** Landings a day apart, things of weight 1 that do not spoil, all the room there can be. */
    static KnifeTrade plain(int landings, int things) {
        KnifeTrade x = new KnifeTrade();
        for (int i = 0; i < landings; i++) {
            x.landing(1, 1);
        }
        for (int i = 0; i < things; i++) {
            x.thing(1, 0);
        }
        x.put(0, 500);
        return x;
    }

    /**
     * Three landings, three things, two changes, with two unlike images and a fraction: a refused
     * call has something of each kind that it could change.
     */
    static KnifeTrade rich() {
        KnifeTrade x = new KnifeTrade();
        x.landing(0, 0);
        x.landing(2, 1);
        x.landing(3, 2);
        x.thing(2, 5);
        x.thing(3, 0);
        x.thing(1, 10);
        x.start(0, 30);
        x.start(1, 4);
        x.start(2, 60);
        x.put(0, 300);
        x.put(1, 3);
        x.image(0);
        x.put(2, 2);
        x.put(3, 90);
        x.put(4, 1);
        x.put(5, 2);
        x.change(1, 0, 2, 1, 3);
        x.change(0, 1, 2, 0, 1);
        x.moves(0, 2, 3, 20);
        x.moves(1, 1, 2, 9);
        x.greeting(1, 2, 4, 0, 6, 3);
        x.image(1);
        x.greeting(2, 0, 1, 1, 2, 7);
        Check.tell(x, 0, "up; do 0 5; down; do 1 1;");
        Check.tell(x, 1, "up; do 0 3; down;");
        x.ring(KnifeTrade.NONE);
        return x;
    }

    /** Nothing more can come: six landings, six things, eight changes, two texts of 160 bytes. */
    static KnifeTrade full() {
        KnifeTrade x = plain(6, 6);
        for (int i = 0; i < 8; i++) {
            x.change(i % 6, i % 6, 3, (i + 1) % 6, 2);
        }
        for (int i = 0; i < 20; i++) {
            x.type(0, Check.packed("do 0  1;"), 8);
            x.type(1, Check.packed(" wait 1;"), 8);
        }
        return x;
    }
}
