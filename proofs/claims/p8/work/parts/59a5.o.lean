/-! words of the tables that are used, by their places; decode rows; fields -/

