/** The calls of the document's face, so that the class and PlainModel can be asked alike. */
interface Face {
    long sign(int c);

    long read();

    long shipment(int zone, int grams, int volume);

    long weight(int shipment, int service);

    long price(int shipment, int service);

    long cheapest(int shipment);

    long parcels(int shipment, int service);

    long contract(int service, int from, int up, int down);

    long book(int shipment, int service);

    long combine(int shipment, int other);

    long invoice(int shipment, int cents);

    long refund(int shipment, int cents);

    long differ(int i);

    long currency(int day, int up, int down);

    long converted(int cents, int day);

    long told(int shipment, int what);

    long count(int what);
}
