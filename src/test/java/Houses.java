/** The houses that many tests begin with. */
final class Houses {
    static final int ALL_KINDS = 65535;

    private Houses() {
    }

    /** Hosts at home on net 0, all with the names 1 to 9, of the ranks given. */
    static WhoIsThere ofRanks(int... ranks) {
        WhoIsThere x = new WhoIsThere();
        for (int rank : ranks) {
            x.host(0, 1, 9, rank);
        }
        return x;
    }

    /** Hosts of one rank at home on the nets given; host h has the names 10 h + 1 to 10 h + 10. */
    static WhoIsThere ofNets(int... nets) {
        WhoIsThere x = new WhoIsThere();
        for (int h = 0; h < nets.length; h++) {
            x.host(nets[h], 10 * h + 1, 10 * h + 10, 5);
        }
        return x;
    }

    /** Twelve hosts on net 0; of the first eight each has four false services, held: 32 in all. */
    static WhoIsThere full() {
        return fullOn(new int[12]);
    }

    /** Eight hosts or more on the nets given, the first eight with 32 services as in a full house. */
    static WhoIsThere fullOn(int... nets) {
        WhoIsThere x = ofNets(nets);
        for (int s = 0; s < 32; s++) {
            // The names fall as the numbers rise, so that their order is not that of the services.
            x.lie(s / 4, 3, 10 * (s / 4) + 4 - s % 4, 255, 40);
        }
        return x;
    }
}
