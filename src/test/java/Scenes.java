/** Circuits at which many tests begin. */
final class Scenes {
    private Scenes() {
    }

    /** Ports on the nets from 0 on. */
    static Circuit ports(int ports) {
        Circuit x = new Circuit();
        for (int i = 0; i < ports; i++) {
            x.cell(Suite.PORT, i, 0, 0, 0);
        }
        return x;
    }

    /** So many cells: a port on net 0, a NOT on net 1, and TRIs that share net 2. */
    static Circuit cells(int cells) {
        Circuit x = ports(1);
        x.cell(Suite.NOT, 1, 39, 0, 0);
        addTris(x, cells - 2);
        return x;
    }

    static void addTris(Circuit x, int tris) {
        for (int i = 0; i < tris; i++) {
            x.cell(Suite.TRI, 2, 38, 39, 0);
        }
    }

    /** So many nets, 40 to 80, of which the last has no driver; net 39 has TRIs if there are more than 40. */
    static Circuit nets(int nets) {
        Circuit x = new Circuit();
        x.part(0, Suite.MUX, 2, 3, 4, 5);
        x.part(0, Suite.MUX, 6, 7, 8, 9);
        x.part(1, Suite.TRI, 0, 2, 2, 0);
        for (int i = 0; i < (nets - 40) / 8; i++) {
            x.instance(0, 0, 0);
        }
        for (int i = 0; i < (nets - 40) % 8; i++) {
            x.instance(1, 39, 39);
        }
        return x;
    }

    /** 60 cells and 80 nets: fifty cells in five instances over fresh nets, ten TRIs on net 0. */
    static Circuit full() {
        Circuit x = new Circuit();
        for (int local = 2; local <= 8; local++) {
            x.part(0, Suite.NOT, local, local + 1, 0, 0);
        }
        x.part(0, Suite.REGISTER, 9, 2, 0, 1);
        x.part(0, Suite.TRI, 1, 2, 3, 0);
        x.part(0, Suite.TRI, 1, 4, 5, 0);
        for (int i = 0; i < 10; i++) {
            x.part(1, Suite.TRI, 0, 1, 1, 0);
        }
        for (int i = 0; i < 5; i++) {
            x.instance(0, 10 + i, 20);
        }
        x.instance(1, 0, 20);
        return x;
    }

    /** NOTs in a row, one after the other: net i + 1 of net i. */
    static Circuit chain(int nots) {
        Circuit x = new Circuit();
        for (int i = 0; i < nots; i++) {
            x.cell(Suite.NOT, i + 1, i, 0, 0);
        }
        return x;
    }
}
