/-! the first world of the law's loop -/
set_option maxRecDepth 100000 in
def w1 (c : Nat → jE) (f6 f7 f8 f9 : Nat → Int32) : Nat → jE := va_up (va_up (va_up (va_up (va_up (va_up (va_up (va_up (va_up (va_up (va_up (va_up (va_up (va_up (va_up (va_up (va_up (va_up (va_up (va_up (va_up (va_up (va_up (va_up (va_up (va_up (va_up (va_up (va_up (va_up (va_up (va_up (va_up (va_up (va_up (va_up (va_up (va_up (va_up (va_up (va_up (va_up (va_up (va_up (va_up (va_up (va_up (va_up (va_up (va_up (va_up (va_up (va_up (va_up (va_up (va_up (va_up (va_up (va_up (va_up (va_up (va_up (va_up (va_up (va_up (va_up (va_up (va_up (va_up (va_up (va_up (va_up (va_up (va_up (va_up (va_up (va_up (va_up (va_up (va_up (va_up (va_up (va_up (va_up (va_up (va_up (va_up (va_up (va_up (va_up (va_up (va_up (va_up (va_up (va_up (va_up (va_up (va_up (va_up (va_up (va_up (va_up (va_up (va_up (va_up (va_up (va_up (va_up (va_up (va_up (va_up (va_up (va_up (va_up (va_up (va_up (va_up (va_up (va_up (va_up (va_up (va_up (va_up (va_up (va_up (va_up (va_up (va_up (va_up (va_up (va_up (va_up (va_up (va_up (va_up (va_up (va_up (va_up (va_up (va_up (va_up (va_up (va_up (va_up (va_up (va_up (va_up (va_up (va_up (va_up (va_up (va_up (va_up (va_up (va_up (va_up (va_up (va_up (va_up (va_up (va_up (va_up (va_up (va_up (va_up (va_up (va_up (va_up (va_up (va_up (va_up (va_up (va_up (va_up (va_up (va_up (va_up (va_up (va_up (va_up (va_up (va_up (va_up (va_up (va_up (va_up (va_up (va_up (va_up (va_up (va_up (va_up (va_up (va_up (va_up (va_up (va_up (va_up (va_up (va_up (va_up (va_up (va_up (va_up (va_up (va_up (va_up (va_up (va_up (va_up (va_up (c) 5 (.inr (1, [.null, .null, .null]))) 5 (.inr (1, [.ref 6, .ref 7, .ref 8]))) 6 (.inl (0, 294, .inl f6))) 7 (.inl (0, 49, .inl f7))) 8 (.inl (0, 2401, .inl f8))) 9 (.inl (0, 49, .inl f9))) 4 (.inr (10, [.ref 5, .null, .null, .null, .null, .null, .null, .null, .null, .int 0, .null, .null, .null]))) 10 (.inr (7, [.null, .int 0, .null, .null, .null, .int 0, .int 0]))) 11 (.inl (0, 8, .inl fun _ => 0))) 10 (.inr (7, [.ref 11, .int 0, .null, .null, .null, .int 0, .int 0]))) 10 (.inr (7, [.ref 11, .int (nI 0), .null, .null, .null, .int 0, .int 0]))) 12 (.inl (0, 40, .inl fun _ => 0))) 10 (.inr (7, [.ref 11, .int (nI 0), .ref 12, .null, .null, .int 0, .int 0]))) 13 (.inl (0, 40, .inl fun _ => 0))) 10 (.inr (7, [.ref 11, .int (nI 0), .ref 12, .ref 13, .null, .int 0, .int 0]))) 14 (.inl (0, 40, .inl fun _ => 0))) 10 (.inr (7, [.ref 11, .int (nI 0), .ref 12, .ref 13, .ref 14, .int 0, .int 0]))) 10 (.inr (7, [.ref 11, .int (nI 0), .ref 12, .ref 13, .ref 14, .int (nI 0), .int 0]))) 10 (.inr (7, [.ref 11, .int (nI 0), .ref 12, .ref 13, .ref 14, .int (nI 0), .int (nI 0)]))) 11 (.inl (0, 8, .inl (upd (fun _ => 0) (nI 6).toNatClampNeg (nI 6))))) 11 (.inl (0, 8, .inl (upd (upd (fun _ => 0) (nI 6).toNatClampNeg (nI 6)) (nI 7).toNatClampNeg (nI 1))))) 4 (.inr (10, [.ref 5, .ref 10, .null, .null, .null, .null, .null, .null, .null, .int 0, .null, .null, .null]))) 15 (.inr (6, [.null, .null, .null, .null, .null]))) 16 (.inr (4, [.null, .int 0, .null, .int 0, .int 0, .int 0, .int 0]))) 17 (.inl (0, 120, .inl fun _ => 0))) 16 (.inr (4, [.ref 17, .int 0, .null, .int 0, .int 0, .int 0, .int 0]))) 16 (.inr (4, [.ref 17, .int (nI 0), .null, .int 0, .int 0, .int 0, .int 0]))) 18 (.inl (0, 120, .inl fun _ => 0))) 16 (.inr (4, [.ref 17, .int (nI 0), .ref 18, .int 0, .int 0, .int 0, .int 0]))) 16 (.inr (4, [.ref 17, .int (nI 0), .ref 18, .int (nI 0), .int 0, .int 0, .int 0]))) 16 (.inr (4, [.ref 17, .int (nI 0), .ref 18, .int (nI 0), .int (nI 0), .int 0, .int 0]))) 16 (.inr (4, [.ref 17, .int (nI 0), .ref 18, .int (nI 0), .int (nI 0), .int (nI 1), .int 0]))) 16 (.inr (4, [.ref 17, .int (nI 0), .ref 18, .int (nI 0), .int (nI 0), .int (nI 1), .int (nI 0)]))) 15 (.inr (6, [.null, .null, .ref 16, .null, .null]))) 19 (.inr (3, [.null, .null, .int 0, .null, .null, .null, .int 0, .int 0, .int 0, .null, .null]))) 20 (.inl (0, 120, .inl fun _ => 0))) 19 (.inr (3, [.ref 20, .null, .int 0, .null, .null, .null, .int 0, .int 0, .int 0, .null, .null]))) 21 (.inl (0, 120, .inl fun _ => 0))) 19 (.inr (3, [.ref 20, .ref 21, .int 0, .null, .null, .null, .int 0, .int 0, .int 0, .null, .null]))) 19 (.inr (3, [.ref 20, .ref 21, .int (nI 0), .null, .null, .null, .int 0, .int 0, .int 0, .null, .null]))) 22 (.inl (0, 61, .inl fun _ => 0))) 19 (.inr (3, [.ref 20, .ref 21, .int (nI 0), .ref 22, .null, .null, .int 0, .int 0, .int 0, .null, .null]))) 23 (.inl (0, 61, .inl fun _ => 0))) 19 (.inr (3, [.ref 20, .ref 21, .int (nI 0), .ref 22, .ref 23, .null, .int 0, .int 0, .int 0, .null, .null]))) 24 (.inl (0, 61, .inl fun _ => 0))) 19 (.inr (3, [.ref 20, .ref 21, .int (nI 0), .ref 22, .ref 23, .ref 24, .int 0, .int 0, .int 0, .null, .null]))) 19 (.inr (3, [.ref 20, .ref 21, .int (nI 0), .ref 22, .ref 23, .ref 24, .int (nI 0), .int 0, .int 0, .null, .null]))) 19 (.inr (3, [.ref 20, .ref 21, .int (nI 0), .ref 22, .ref 23, .ref 24, .int (nI 0), .int (nI 0), .int 0, .null, .null]))) 19 (.inr (3, [.ref 20, .ref 21, .int (nI 0), .ref 22, .ref 23, .ref 24, .int (nI 0), .int (nI 0), .int (nI 0), .null, .null]))) 25 (.inl (0, 6, .inl fun _ => 0))) 19 (.inr (3, [.ref 20, .ref 21, .int (nI 0), .ref 22, .ref 23, .ref 24, .int (nI 0), .int (nI 0), .int (nI 0), .ref 25, .null]))) 26 (.inl (0, 120, .inl fun _ => 0))) 19 (.inr (3, [.ref 20, .ref 21, .int (nI 0), .ref 22, .ref 23, .ref 24, .int (nI 0), .int (nI 0), .int (nI 0), .ref 25, .ref 26]))) 15 (.inr (6, [.null, .null, .ref 16, .ref 19, .null]))) 27 (.inr (3, [.null, .null, .int 0, .null, .null, .null, .int 0, .int 0, .int 0, .null, .null]))) 28 (.inl (0, 120, .inl fun _ => 0))) 27 (.inr (3, [.ref 28, .null, .int 0, .null, .null, .null, .int 0, .int 0, .int 0, .null, .null]))) 29 (.inl (0, 120, .inl fun _ => 0))) 27 (.inr (3, [.ref 28, .ref 29, .int 0, .null, .null, .null, .int 0, .int 0, .int 0, .null, .null]))) 27 (.inr (3, [.ref 28, .ref 29, .int (nI 0), .null, .null, .null, .int 0, .int 0, .int 0, .null, .null]))) 30 (.inl (0, 61, .inl fun _ => 0))) 27 (.inr (3, [.ref 28, .ref 29, .int (nI 0), .ref 30, .null, .null, .int 0, .int 0, .int 0, .null, .null]))) 31 (.inl (0, 61, .inl fun _ => 0))) 27 (.inr (3, [.ref 28, .ref 29, .int (nI 0), .ref 30, .ref 31, .null, .int 0, .int 0, .int 0, .null, .null]))) 32 (.inl (0, 61, .inl fun _ => 0))) 27 (.inr (3, [.ref 28, .ref 29, .int (nI 0), .ref 30, .ref 31, .ref 32, .int 0, .int 0, .int 0, .null, .null]))) 27 (.inr (3, [.ref 28, .ref 29, .int (nI 0), .ref 30, .ref 31, .ref 32, .int (nI 0), .int 0, .int 0, .null, .null]))) 27 (.inr (3, [.ref 28, .ref 29, .int (nI 0), .ref 30, .ref 31, .ref 32, .int (nI 0), .int (nI 0), .int 0, .null, .null]))) 27 (.inr (3, [.ref 28, .ref 29, .int (nI 0), .ref 30, .ref 31, .ref 32, .int (nI 0), .int (nI 0), .int (nI 0), .null, .null]))) 33 (.inl (0, 6, .inl fun _ => 0))) 27 (.inr (3, [.ref 28, .ref 29, .int (nI 0), .ref 30, .ref 31, .ref 32, .int (nI 0), .int (nI 0), .int (nI 0), .ref 33, .null]))) 34 (.inl (0, 120, .inl fun _ => 0))) 27 (.inr (3, [.ref 28, .ref 29, .int (nI 0), .ref 30, .ref 31, .ref 32, .int (nI 0), .int (nI 0), .int (nI 0), .ref 33, .ref 34]))) 15 (.inr (6, [.null, .null, .ref 16, .ref 19, .ref 27]))) 15 (.inr (6, [.ref 5, .null, .ref 16, .ref 19, .ref 27]))) 15 (.inr (6, [.ref 5, .ref 10, .ref 16, .ref 19, .ref 27]))) 4 (.inr (10, [.ref 5, .ref 10, .ref 15, .null, .null, .null, .null, .null, .null, .int 0, .null, .null, .null]))) 35 (.inr (9, [.null, .null, .null, .int 0, .null, .null, .int 0, .int 0]))) 36 (.inl (0, 30, .inl fun _ => 0))) 35 (.inr (9, [.null, .null, .ref 36, .int 0, .null, .null, .int 0, .int 0]))) 35 (.inr (9, [.null, .null, .ref 36, .int (nI 0), .null, .null, .int 0, .int 0]))) 37 (.inl (0, 5, .inl fun _ => 0))) 35 (.inr (9, [.null, .null, .ref 36, .int (nI 0), .ref 37, .null, .int 0, .int 0]))) 38 (.inl (0, 5, .inl fun _ => 0))) 35 (.inr (9, [.null, .null, .ref 36, .int (nI 0), .ref 37, .ref 38, .int 0, .int 0]))) 35 (.inr (9, [.null, .null, .ref 36, .int (nI 0), .ref 37, .ref 38, .int (nI 0), .int 0]))) 35 (.inr (9, [.null, .null, .ref 36, .int (nI 0), .ref 37, .ref 38, .int (nI 0), .int (nI 0)]))) 35 (.inr (9, [.ref 15, .null, .ref 36, .int (nI 0), .ref 37, .ref 38, .int (nI 0), .int (nI 0)]))) 39 (.inr (0, [.null, .null, .null, .null, .int 0]))) 40 (.inl (0, 49, .inl fun _ => 0))) 39 (.inr (0, [.null, .ref 40, .null, .null, .int 0]))) 41 (.inl (0, 49, .inl fun _ => 0))) 39 (.inr (0, [.null, .ref 40, .ref 41, .null, .int 0]))) 42 (.inl (0, 49, .inl fun _ => 0))) 39 (.inr (0, [.null, .ref 40, .ref 41, .ref 42, .int 0]))) 39 (.inr (0, [.null, .ref 40, .ref 41, .ref 42, .int (nI 0)]))) 39 (.inr (0, [.ref 5, .ref 40, .ref 41, .ref 42, .int (nI 0)]))) 40 (.inl (0, 49, .inl (fiF (fun _ => -1) (fun _ => 0) 0 49)))) 42 (.inl (0, 49, .inl (fiF f7 (fun _ => 0) 0 49)))) 35 (.inr (9, [.ref 15, .ref 39, .ref 36, .int (nI 0), .ref 37, .ref 38, .int (nI 0), .int (nI 0)]))) 4 (.inr (10, [.ref 5, .ref 10, .ref 15, .ref 35, .null, .null, .null, .null, .null, .int 0, .null, .null, .null]))) 43 (.inr (0, [.null, .null, .null, .null, .int 0]))) 44 (.inl (0, 49, .inl fun _ => 0))) 43 (.inr (0, [.null, .ref 44, .null, .null, .int 0]))) 45 (.inl (0, 49, .inl fun _ => 0))) 43 (.inr (0, [.null, .ref 44, .ref 45, .null, .int 0]))) 46 (.inl (0, 49, .inl fun _ => 0))) 43 (.inr (0, [.null, .ref 44, .ref 45, .ref 46, .int 0]))) 43 (.inr (0, [.null, .ref 44, .ref 45, .ref 46, .int (nI 0)]))) 43 (.inr (0, [.ref 5, .ref 44, .ref 45, .ref 46, .int (nI 0)]))) 44 (.inl (0, 49, .inl (fiF (fun _ => -1) (fun _ => 0) 0 49)))) 46 (.inl (0, 49, .inl (fiF f7 (fun _ => 0) 0 49)))) 4 (.inr (10, [.ref 5, .ref 10, .ref 15, .ref 35, .ref 43, .null, .null, .null, .null, .int 0, .null, .null, .null]))) 47 (.inr (0, [.null, .null, .null, .null, .int 0]))) 48 (.inl (0, 49, .inl fun _ => 0))) 47 (.inr (0, [.null, .ref 48, .null, .null, .int 0]))) 49 (.inl (0, 49, .inl fun _ => 0))) 47 (.inr (0, [.null, .ref 48, .ref 49, .null, .int 0]))) 50 (.inl (0, 49, .inl fun _ => 0))) 47 (.inr (0, [.null, .ref 48, .ref 49, .ref 50, .int 0]))) 47 (.inr (0, [.null, .ref 48, .ref 49, .ref 50, .int (nI 0)]))) 47 (.inr (0, [.ref 5, .ref 48, .ref 49, .ref 50, .int (nI 0)]))) 48 (.inl (0, 49, .inl (fiF (fun _ => -1) (fun _ => 0) 0 49)))) 50 (.inl (0, 49, .inl (fiF f7 (fun _ => 0) 0 49)))) 4 (.inr (10, [.ref 5, .ref 10, .ref 15, .ref 35, .ref 43, .ref 47, .null, .null, .null, .int 0, .null, .null, .null]))) 51 (.inr (0, [.null, .null, .null, .null, .int 0]))) 52 (.inl (0, 49, .inl fun _ => 0))) 51 (.inr (0, [.null, .ref 52, .null, .null, .int 0]))) 53 (.inl (0, 49, .inl fun _ => 0))) 51 (.inr (0, [.null, .ref 52, .ref 53, .null, .int 0]))) 54 (.inl (0, 49, .inl fun _ => 0))) 51 (.inr (0, [.null, .ref 52, .ref 53, .ref 54, .int 0]))) 51 (.inr (0, [.null, .ref 52, .ref 53, .ref 54, .int (nI 0)]))) 51 (.inr (0, [.ref 5, .ref 52, .ref 53, .ref 54, .int (nI 0)]))) 52 (.inl (0, 49, .inl (fiF (fun _ => -1) (fun _ => 0) 0 49)))) 54 (.inl (0, 49, .inl (fiF f7 (fun _ => 0) 0 49)))) 4 (.inr (10, [.ref 5, .ref 10, .ref 15, .ref 35, .ref 43, .ref 47, .ref 51, .null, .null, .int 0, .null, .null, .null]))) 55 (.inl (0, 6, .inl fun _ => 0))) 4 (.inr (10, [.ref 5, .ref 10, .ref 15, .ref 35, .ref 43, .ref 47, .ref 51, .ref 55, .null, .int 0, .null, .null, .null]))) 56 (.inl (0, 6, .inl fun _ => 0))) 4 (.inr (10, [.ref 5, .ref 10, .ref 15, .ref 35, .ref 43, .ref 47, .ref 51, .ref 55, .ref 56, .int 0, .null, .null, .null]))) 4 (.inr (10, [.ref 5, .ref 10, .ref 15, .ref 35, .ref 43, .ref 47, .ref 51, .ref 55, .ref 56, .int (nI 0), .null, .null, .null]))) 57 (.inr (5, [.null, .int 0, .null, .int 0, .int 0, .int 0]))) 58 (.inl (0, 10, .inl fun _ => 0))) 57 (.inr (5, [.ref 58, .int 0, .null, .int 0, .int 0, .int 0]))) 57 (.inr (5, [.ref 58, .int (nI 0), .null, .int 0, .int 0, .int 0]))) 59 (.inl (0, 1024, .inl fun _ => 0))) 57 (.inr (5, [.ref 58, .int (nI 0), .ref 59, .int 0, .int 0, .int 0]))) 57 (.inr (5, [.ref 58, .int (nI 0), .ref 59, .int (nI 1), .int 0, .int 0]))) 57 (.inr (5, [.ref 58, .int (nI 0), .ref 59, .int (nI 1), .int (nI 0), .int 0]))) 57 (.inr (5, [.ref 58, .int (nI 0), .ref 59, .int (nI 1), .int (nI 0), .int (nI 0)]))) 4 (.inr (10, [.ref 5, .ref 10, .ref 15, .ref 35, .ref 43, .ref 47, .ref 51, .ref 55, .ref 56, .int (nI 0), .ref 57, .null, .null]))) 60 (.inr (2, [.null, .int 0, .null, .int 0, .int 0]))) 61 (.inl (0, 50, .inl fun _ => 0))) 60 (.inr (2, [.ref 61, .int 0, .null, .int 0, .int 0]))) 60 (.inr (2, [.ref 61, .int (nI 0), .null, .int 0, .int 0]))) 62 (.inl (0, 24, .inl fun _ => 0))) 60 (.inr (2, [.ref 61, .int (nI 0), .ref 62, .int 0, .int 0]))) 60 (.inr (2, [.ref 61, .int (nI 0), .ref 62, .int (nI 0), .int 0]))) 60 (.inr (2, [.ref 61, .int (nI 0), .ref 62, .int (nI 0), .int (nI 0)]))) 4 (.inr (10, [.ref 5, .ref 10, .ref 15, .ref 35, .ref 43, .ref 47, .ref 51, .ref 55, .ref 56, .int (nI 0), .ref 57, .ref 60, .null]))) 63 (.inl (3, 6, .inr (.inr (.inr (.inr fun _ => none)))))) 4 (.inr (10, [.ref 5, .ref 10, .ref 15, .ref 35, .ref 43, .ref 47, .ref 51, .ref 55, .ref 56, .int (nI 0), .ref 57, .ref 60, .ref 63]))) 64 (.inr (8, [.int 0, .int 0, .int 0, .int 0, .null]))) 64 (.inr (8, [.int (nI 0), .int 0, .int 0, .int 0, .null]))) 64 (.inr (8, [.int (nI 0), .int (-2), .int 0, .int 0, .null]))) 64 (.inr (8, [.int (nI 0), .int (-2), .int (nI 0), .int 0, .null]))) 64 (.inr (8, [.int (nI 0), .int (-2), .int (nI 0), .int (nI 0), .null]))) 65 (.inl (1, 60, .inr (.inl fun _ => 0)))) 64 (.inr (8, [.int (nI 0), .int (-2), .int (nI 0), .int (nI 0), .ref 65]))) 63 (.inl (3, 6, .inr (.inr (.inr (.inr (va_up (fun _ => none) (nI 0).toNatClampNeg (some 64)))))))) 66 (.inr (8, [.int 0, .int 0, .int 0, .int 0, .null]))) 66 (.inr (8, [.int (nI 0), .int 0, .int 0, .int 0, .null]))) 66 (.inr (8, [.int (nI 0), .int (-2), .int 0, .int 0, .null]))) 66 (.inr (8, [.int (nI 0), .int (-2), .int (nI 0), .int 0, .null]))) 66 (.inr (8, [.int (nI 0), .int (-2), .int (nI 0), .int (nI 0), .null]))) 67 (.inl (1, 60, .inr (.inl fun _ => 0)))) 66 (.inr (8, [.int (nI 0), .int (-2), .int (nI 0), .int (nI 0), .ref 67]))) 63 (.inl (3, 6, .inr (.inr (.inr (.inr (va_up (va_up (fun _ => none) (nI 0).toNatClampNeg (some 64)) (nI 1).toNatClampNeg (some 66)))))))) 68 (.inr (8, [.int 0, .int 0, .int 0, .int 0, .null]))) 68 (.inr (8, [.int (nI 0), .int 0, .int 0, .int 0, .null]))) 68 (.inr (8, [.int (nI 0), .int (-2), .int 0, .int 0, .null]))) 68 (.inr (8, [.int (nI 0), .int (-2), .int (nI 0), .int 0, .null]))) 68 (.inr (8, [.int (nI 0), .int (-2), .int (nI 0), .int (nI 0), .null]))) 69 (.inl (1, 60, .inr (.inl fun _ => 0)))) 68 (.inr (8, [.int (nI 0), .int (-2), .int (nI 0), .int (nI 0), .ref 69]))) 63 (.inl (3, 6, .inr (.inr (.inr (.inr (va_up (va_up (va_up (fun _ => none) (nI 0).toNatClampNeg (some 64)) (nI 1).toNatClampNeg (some 66)) (nI 2).toNatClampNeg (some 68)))))))) 70 (.inr (8, [.int 0, .int 0, .int 0, .int 0, .null]))) 70 (.inr (8, [.int (nI 0), .int 0, .int 0, .int 0, .null]))) 70 (.inr (8, [.int (nI 0), .int (-2), .int 0, .int 0, .null]))) 70 (.inr (8, [.int (nI 0), .int (-2), .int (nI 0), .int 0, .null]))) 70 (.inr (8, [.int (nI 0), .int (-2), .int (nI 0), .int (nI 0), .null]))) 71 (.inl (1, 60, .inr (.inl fun _ => 0)))) 70 (.inr (8, [.int (nI 0), .int (-2), .int (nI 0), .int (nI 0), .ref 71]))) 63 (.inl (3, 6, .inr (.inr (.inr (.inr (va_up (va_up (va_up (va_up (fun _ => none) (nI 0).toNatClampNeg (some 64)) (nI 1).toNatClampNeg (some 66)) (nI 2).toNatClampNeg (some 68)) (nI 3).toNatClampNeg (some 70)))))))) 72 (.inr (8, [.int 0, .int 0, .int 0, .int 0, .null]))) 72 (.inr (8, [.int (nI 0), .int 0, .int 0, .int 0, .null]))) 72 (.inr (8, [.int (nI 0), .int (-2), .int 0, .int 0, .null]))) 72 (.inr (8, [.int (nI 0), .int (-2), .int (nI 0), .int 0, .null]))) 72 (.inr (8, [.int (nI 0), .int (-2), .int (nI 0), .int (nI 0), .null]))) 73 (.inl (1, 60, .inr (.inl fun _ => 0)))) 72 (.inr (8, [.int (nI 0), .int (-2), .int (nI 0), .int (nI 0), .ref 73]))) 63 (.inl (3, 6, .inr (.inr (.inr (.inr (va_up (va_up (va_up (va_up (va_up (fun _ => none) (nI 0).toNatClampNeg (some 64)) (nI 1).toNatClampNeg (some 66)) (nI 2).toNatClampNeg (some 68)) (nI 3).toNatClampNeg (some 70)) (nI 4).toNatClampNeg (some 72)))))))) 74 (.inr (8, [.int 0, .int 0, .int 0, .int 0, .null]))) 74 (.inr (8, [.int (nI 0), .int 0, .int 0, .int 0, .null]))) 74 (.inr (8, [.int (nI 0), .int (-2), .int 0, .int 0, .null]))) 74 (.inr (8, [.int (nI 0), .int (-2), .int (nI 0), .int 0, .null]))) 74 (.inr (8, [.int (nI 0), .int (-2), .int (nI 0), .int (nI 0), .null]))) 75 (.inl (1, 60, .inr (.inl fun _ => 0)))) 74 (.inr (8, [.int (nI 0), .int (-2), .int (nI 0), .int (nI 0), .ref 75]))) 63 (.inl (3, 6, .inr (.inr (.inr (.inr (va_up (va_up (va_up (va_up (va_up (va_up (fun _ => none) (nI 0).toNatClampNeg (some 64)) (nI 1).toNatClampNeg (some 66)) (nI 2).toNatClampNeg (some 68)) (nI 3).toNatClampNeg (some 70)) (nI 4).toNatClampNeg (some 72)) (nI 5).toNatClampNeg (some 74)))))))
set_option maxRecDepth 100000 in
def w3 (c : Nat → jE) (f81 : Nat → Int32) : Nat → jE := va_up (va_up (va_up (va_up (va_up (va_up (va_up (va_up (va_up (va_up (va_up (va_up (va_up (va_up (va_up (va_up (va_up (va_up (va_up (va_up (va_up (va_up (va_up (va_up (va_up (va_up (va_up (va_up (va_up (va_up (va_up (va_up (va_up (va_up (va_up (va_up (va_up (va_up (va_up (va_up (va_up (va_up (va_up (va_up (va_up (va_up (va_up (va_up (va_up (va_up (va_up (va_up (va_up (va_up (va_up (va_up (va_up (va_up (va_up (va_up (va_up (va_up (va_up (va_up (va_up (va_up (c) 77 (.inl (0, 8, .inl fun _ => 0))) 76 (.inr (11, [.ref 77, .null, .null, .null, .int 0, .int 0, .null, .int 0, .null, .null, .null, .null, .null, .int 0, .null, .int 0, .int 0, .int 0, .int 0, .int 0, .int 0, .null, .null, .null, .null, .int 0, .null, .int 0, .int 0, .int 0, .null, .null, .int 0, .null, .null, .null, .int 0, .null, .null, .int 0, .int 0, .int 0, .null, .null, .null, .null]))) 78 (.inl (0, 40, .inl fun _ => 0))) 76 (.inr (11, [.ref 77, .ref 78, .null, .null, .int 0, .int 0, .null, .int 0, .null, .null, .null, .null, .null, .int 0, .null, .int 0, .int 0, .int 0, .int 0, .int 0, .int 0, .null, .null, .null, .null, .int 0, .null, .int 0, .int 0, .int 0, .null, .null, .int 0, .null, .null, .null, .int 0, .null, .null, .int 0, .int 0, .int 0, .null, .null, .null, .null]))) 79 (.inl (0, 40, .inl fun _ => 0))) 76 (.inr (11, [.ref 77, .ref 78, .ref 79, .null, .int 0, .int 0, .null, .int 0, .null, .null, .null, .null, .null, .int 0, .null, .int 0, .int 0, .int 0, .int 0, .int 0, .int 0, .null, .null, .null, .null, .int 0, .null, .int 0, .int 0, .int 0, .null, .null, .int 0, .null, .null, .null, .int 0, .null, .null, .int 0, .int 0, .int 0, .null, .null, .null, .null]))) 80 (.inl (0, 40, .inl fun _ => 0))) 76 (.inr (11, [.ref 77, .ref 78, .ref 79, .ref 80, .int 0, .int 0, .null, .int 0, .null, .null, .null, .null, .null, .int 0, .null, .int 0, .int 0, .int 0, .int 0, .int 0, .int 0, .null, .null, .null, .null, .int 0, .null, .int 0, .int 0, .int 0, .null, .null, .int 0, .null, .null, .null, .int 0, .null, .null, .int 0, .int 0, .int 0, .null, .null, .null, .null]))) 81 (.inl (0, 2401, .inl fun _ => 0))) 76 (.inr (11, [.ref 77, .ref 78, .ref 79, .ref 80, .int 0, .int 0, .ref 81, .int 0, .null, .null, .null, .null, .null, .int 0, .null, .int 0, .int 0, .int 0, .int 0, .int 0, .int 0, .null, .null, .null, .null, .int 0, .null, .int 0, .int 0, .int 0, .null, .null, .int 0, .null, .null, .null, .int 0, .null, .null, .int 0, .int 0, .int 0, .null, .null, .null, .null]))) 82 (.inl (0, 49, .inl fun _ => 0))) 76 (.inr (11, [.ref 77, .ref 78, .ref 79, .ref 80, .int 0, .int 0, .ref 81, .int 0, .ref 82, .null, .null, .null, .null, .int 0, .null, .int 0, .int 0, .int 0, .int 0, .int 0, .int 0, .null, .null, .null, .null, .int 0, .null, .int 0, .int 0, .int 0, .null, .null, .int 0, .null, .null, .null, .int 0, .null, .null, .int 0, .int 0, .int 0, .null, .null, .null, .null]))) 83 (.inl (0, 49, .inl fun _ => 0))) 76 (.inr (11, [.ref 77, .ref 78, .ref 79, .ref 80, .int 0, .int 0, .ref 81, .int 0, .ref 82, .ref 83, .null, .null, .null, .int 0, .null, .int 0, .int 0, .int 0, .int 0, .int 0, .int 0, .null, .null, .null, .null, .int 0, .null, .int 0, .int 0, .int 0, .null, .null, .int 0, .null, .null, .null, .int 0, .null, .null, .int 0, .int 0, .int 0, .null, .null, .null, .null]))) 84 (.inl (0, 49, .inl fun _ => 0))) 76 (.inr (11, [.ref 77, .ref 78, .ref 79, .ref 80, .int 0, .int 0, .ref 81, .int 0, .ref 82, .ref 83, .ref 84, .null, .null, .int 0, .null, .int 0, .int 0, .int 0, .int 0, .int 0, .int 0, .null, .null, .null, .null, .int 0, .null, .int 0, .int 0, .int 0, .null, .null, .int 0, .null, .null, .null, .int 0, .null, .null, .int 0, .int 0, .int 0, .null, .null, .null, .null]))) 85 (.inl (0, 49, .inl fun _ => 0))) 76 (.inr (11, [.ref 77, .ref 78, .ref 79, .ref 80, .int 0, .int 0, .ref 81, .int 0, .ref 82, .ref 83, .ref 84, .ref 85, .null, .int 0, .null, .int 0, .int 0, .int 0, .int 0, .int 0, .int 0, .null, .null, .null, .null, .int 0, .null, .int 0, .int 0, .int 0, .null, .null, .int 0, .null, .null, .null, .int 0, .null, .null, .int 0, .int 0, .int 0, .null, .null, .null, .null]))) 86 (.inl (0, 120, .inl fun _ => 0))) 76 (.inr (11, [.ref 77, .ref 78, .ref 79, .ref 80, .int 0, .int 0, .ref 81, .int 0, .ref 82, .ref 83, .ref 84, .ref 85, .ref 86, .int 0, .null, .int 0, .int 0, .int 0, .int 0, .int 0, .int 0, .null, .null, .null, .null, .int 0, .null, .int 0, .int 0, .int 0, .null, .null, .int 0, .null, .null, .null, .int 0, .null, .null, .int 0, .int 0, .int 0, .null, .null, .null, .null]))) 87 (.inl (0, 120, .inl fun _ => 0))) 76 (.inr (11, [.ref 77, .ref 78, .ref 79, .ref 80, .int 0, .int 0, .ref 81, .int 0, .ref 82, .ref 83, .ref 84, .ref 85, .ref 86, .int 0, .ref 87, .int 0, .int 0, .int 0, .int 0, .int 0, .int 0, .null, .null, .null, .null, .int 0, .null, .int 0, .int 0, .int 0, .null, .null, .int 0, .null, .null, .null, .int 0, .null, .null, .int 0, .int 0, .int 0, .null, .null, .null, .null]))) 88 (.inl (0, 6, .inl fun _ => 0))) 76 (.inr (11, [.ref 77, .ref 78, .ref 79, .ref 80, .int 0, .int 0, .ref 81, .int 0, .ref 82, .ref 83, .ref 84, .ref 85, .ref 86, .int 0, .ref 87, .int 0, .int 0, .int 0, .int 0, .int 0, .int 0, .ref 88, .null, .null, .null, .int 0, .null, .int 0, .int 0, .int 0, .null, .null, .int 0, .null, .null, .null, .int 0, .null, .null, .int 0, .int 0, .int 0, .null, .null, .null, .null]))) 89 (.inl (2, 49, .inl fun _ => 0))) 76 (.inr (11, [.ref 77, .ref 78, .ref 79, .ref 80, .int 0, .int 0, .ref 81, .int 0, .ref 82, .ref 83, .ref 84, .ref 85, .ref 86, .int 0, .ref 87, .int 0, .int 0, .int 0, .int 0, .int 0, .int 0, .ref 88, .ref 89, .null, .null, .int 0, .null, .int 0, .int 0, .int 0, .null, .null, .int 0, .null, .null, .null, .int 0, .null, .null, .int 0, .int 0, .int 0, .null, .null, .null, .null]))) 90 (.inl (0, 5, .inl fun _ => 0))) 76 (.inr (11, [.ref 77, .ref 78, .ref 79, .ref 80, .int 0, .int 0, .ref 81, .int 0, .ref 82, .ref 83, .ref 84, .ref 85, .ref 86, .int 0, .ref 87, .int 0, .int 0, .int 0, .int 0, .int 0, .int 0, .ref 88, .ref 89, .ref 90, .null, .int 0, .null, .int 0, .int 0, .int 0, .null, .null, .int 0, .null, .null, .null, .int 0, .null, .null, .int 0, .int 0, .int 0, .null, .null, .null, .null]))) 91 (.inl (0, 5, .inl fun _ => 0))) 76 (.inr (11, [.ref 77, .ref 78, .ref 79, .ref 80, .int 0, .int 0, .ref 81, .int 0, .ref 82, .ref 83, .ref 84, .ref 85, .ref 86, .int 0, .ref 87, .int 0, .int 0, .int 0, .int 0, .int 0, .int 0, .ref 88, .ref 89, .ref 90, .ref 91, .int 0, .null, .int 0, .int 0, .int 0, .null, .null, .int 0, .null, .null, .null, .int 0, .null, .null, .int 0, .int 0, .int 0, .null, .null, .null, .null]))) 92 (.inl (0, 10, .inl fun _ => 0))) 76 (.inr (11, [.ref 77, .ref 78, .ref 79, .ref 80, .int 0, .int 0, .ref 81, .int 0, .ref 82, .ref 83, .ref 84, .ref 85, .ref 86, .int 0, .ref 87, .int 0, .int 0, .int 0, .int 0, .int 0, .int 0, .ref 88, .ref 89, .ref 90, .ref 91, .int 0, .ref 92, .int 0, .int 0, .int 0, .null, .null, .int 0, .null, .null, .null, .int 0, .null, .null, .int 0, .int 0, .int 0, .null, .null, .null, .null]))) 93 (.inl (2, 1024, .inl fun _ => 0))) 76 (.inr (11, [.ref 77, .ref 78, .ref 79, .ref 80, .int 0, .int 0, .ref 81, .int 0, .ref 82, .ref 83, .ref 84, .ref 85, .ref 86, .int 0, .ref 87, .int 0, .int 0, .int 0, .int 0, .int 0, .int 0, .ref 88, .ref 89, .ref 90, .ref 91, .int 0, .ref 92, .int 0, .int 0, .int 0, .ref 93, .null, .int 0, .null, .null, .null, .int 0, .null, .null, .int 0, .int 0, .int 0, .null, .null, .null, .null]))) 94 (.inl (0, 6, .inl fun _ => 0))) 76 (.inr (11, [.ref 77, .ref 78, .ref 79, .ref 80, .int 0, .int 0, .ref 81, .int 0, .ref 82, .ref 83, .ref 84, .ref 85, .ref 86, .int 0, .ref 87, .int 0, .int 0, .int 0, .int 0, .int 0, .int 0, .ref 88, .ref 89, .ref 90, .ref 91, .int 0, .ref 92, .int 0, .int 0, .int 0, .ref 93, .ref 94, .int 0, .null, .null, .null, .int 0, .null, .null, .int 0, .int 0, .int 0, .null, .null, .null, .null]))) 95 (.inl (0, 49, .inl fun _ => 0))) 76 (.inr (11, [.ref 77, .ref 78, .ref 79, .ref 80, .int 0, .int 0, .ref 81, .int 0, .ref 82, .ref 83, .ref 84, .ref 85, .ref 86, .int 0, .ref 87, .int 0, .int 0, .int 0, .int 0, .int 0, .int 0, .ref 88, .ref 89, .ref 90, .ref 91, .int 0, .ref 92, .int 0, .int 0, .int 0, .ref 93, .ref 94, .int 0, .ref 95, .null, .null, .int 0, .null, .null, .int 0, .int 0, .int 0, .null, .null, .null, .null]))) 96 (.inl (0, 49, .inl fun _ => 0))) 76 (.inr (11, [.ref 77, .ref 78, .ref 79, .ref 80, .int 0, .int 0, .ref 81, .int 0, .ref 82, .ref 83, .ref 84, .ref 85, .ref 86, .int 0, .ref 87, .int 0, .int 0, .int 0, .int 0, .int 0, .int 0, .ref 88, .ref 89, .ref 90, .ref 91, .int 0, .ref 92, .int 0, .int 0, .int 0, .ref 93, .ref 94, .int 0, .ref 95, .ref 96, .null, .int 0, .null, .null, .int 0, .int 0, .int 0, .null, .null, .null, .null]))) 97 (.inl (0, 6, .inl fun _ => 0))) 76 (.inr (11, [.ref 77, .ref 78, .ref 79, .ref 80, .int 0, .int 0, .ref 81, .int 0, .ref 82, .ref 83, .ref 84, .ref 85, .ref 86, .int 0, .ref 87, .int 0, .int 0, .int 0, .int 0, .int 0, .int 0, .ref 88, .ref 89, .ref 90, .ref 91, .int 0, .ref 92, .int 0, .int 0, .int 0, .ref 93, .ref 94, .int 0, .ref 95, .ref 96, .ref 97, .int 0, .null, .null, .int 0, .int 0, .int 0, .null, .null, .null, .null]))) 98 (.inl (0, 50, .inl fun _ => 0))) 76 (.inr (11, [.ref 77, .ref 78, .ref 79, .ref 80, .int 0, .int 0, .ref 81, .int 0, .ref 82, .ref 83, .ref 84, .ref 85, .ref 86, .int 0, .ref 87, .int 0, .int 0, .int 0, .int 0, .int 0, .int 0, .ref 88, .ref 89, .ref 90, .ref 91, .int 0, .ref 92, .int 0, .int 0, .int 0, .ref 93, .ref 94, .int 0, .ref 95, .ref 96, .ref 97, .int 0, .ref 98, .null, .int 0, .int 0, .int 0, .null, .null, .null, .null]))) 99 (.inl (0, 24, .inl fun _ => 0))) 76 (.inr (11, [.ref 77, .ref 78, .ref 79, .ref 80, .int 0, .int 0, .ref 81, .int 0, .ref 82, .ref 83, .ref 84, .ref 85, .ref 86, .int 0, .ref 87, .int 0, .int 0, .int 0, .int 0, .int 0, .int 0, .ref 88, .ref 89, .ref 90, .ref 91, .int 0, .ref 92, .int 0, .int 0, .int 0, .ref 93, .ref 94, .int 0, .ref 95, .ref 96, .ref 97, .int 0, .ref 98, .ref 99, .int 0, .int 0, .int 0, .null, .null, .null, .null]))) 100 (.inl (0, 6, .inl fun _ => 0))) 76 (.inr (11, [.ref 77, .ref 78, .ref 79, .ref 80, .int 0, .int 0, .ref 81, .int 0, .ref 82, .ref 83, .ref 84, .ref 85, .ref 86, .int 0, .ref 87, .int 0, .int 0, .int 0, .int 0, .int 0, .int 0, .ref 88, .ref 89, .ref 90, .ref 91, .int 0, .ref 92, .int 0, .int 0, .int 0, .ref 93, .ref 94, .int 0, .ref 95, .ref 96, .ref 97, .int 0, .ref 98, .ref 99, .int 0, .int 0, .int 0, .ref 100, .null, .null, .null]))) 101 (.inl (0, 6, .inl fun _ => 0))) 76 (.inr (11, [.ref 77, .ref 78, .ref 79, .ref 80, .int 0, .int 0, .ref 81, .int 0, .ref 82, .ref 83, .ref 84, .ref 85, .ref 86, .int 0, .ref 87, .int 0, .int 0, .int 0, .int 0, .int 0, .int 0, .ref 88, .ref 89, .ref 90, .ref 91, .int 0, .ref 92, .int 0, .int 0, .int 0, .ref 93, .ref 94, .int 0, .ref 95, .ref 96, .ref 97, .int 0, .ref 98, .ref 99, .int 0, .int 0, .int 0, .ref 100, .ref 101, .null, .null]))) 102 (.inl (1, 360, .inr (.inl fun _ => 0)))) 76 (.inr (11, [.ref 77, .ref 78, .ref 79, .ref 80, .int 0, .int 0, .ref 81, .int 0, .ref 82, .ref 83, .ref 84, .ref 85, .ref 86, .int 0, .ref 87, .int 0, .int 0, .int 0, .int 0, .int 0, .int 0, .ref 88, .ref 89, .ref 90, .ref 91, .int 0, .ref 92, .int 0, .int 0, .int 0, .ref 93, .ref 94, .int 0, .ref 95, .ref 96, .ref 97, .int 0, .ref 98, .ref 99, .int 0, .int 0, .int 0, .ref 100, .ref 101, .ref 102, .null]))) 103 (.inl (1, 60, .inr (.inl fun _ => 0)))) 76 (.inr (11, [.ref 77, .ref 78, .ref 79, .ref 80, .int 0, .int 0, .ref 81, .int 0, .ref 82, .ref 83, .ref 84, .ref 85, .ref 86, .int 0, .ref 87, .int 0, .int 0, .int 0, .int 0, .int 0, .int 0, .ref 88, .ref 89, .ref 90, .ref 91, .int 0, .ref 92, .int 0, .int 0, .int 0, .ref 93, .ref 94, .int 0, .ref 95, .ref 96, .ref 97, .int 0, .ref 98, .ref 99, .int 0, .int 0, .int 0, .ref 100, .ref 101, .ref 102, .ref 103]))) 100 (.inl (0, 6, .inl (upd (fun _ => 0) (nI 0).toNatClampNeg (-1))))) 100 (.inl (0, 6, .inl (upd (upd (fun _ => 0) (nI 0).toNatClampNeg (-1)) (nI 1).toNatClampNeg (-1))))) 100 (.inl (0, 6, .inl (upd (upd (upd (fun _ => 0) (nI 0).toNatClampNeg (-1)) (nI 1).toNatClampNeg (-1)) (nI 2).toNatClampNeg (-1))))) 100 (.inl (0, 6, .inl (upd (upd (upd (upd (fun _ => 0) (nI 0).toNatClampNeg (-1)) (nI 1).toNatClampNeg (-1)) (nI 2).toNatClampNeg (-1)) (nI 3).toNatClampNeg (-1))))) 100 (.inl (0, 6, .inl (upd (upd (upd (upd (upd (fun _ => 0) (nI 0).toNatClampNeg (-1)) (nI 1).toNatClampNeg (-1)) (nI 2).toNatClampNeg (-1)) (nI 3).toNatClampNeg (-1)) (nI 4).toNatClampNeg (-1))))) 100 (.inl (0, 6, .inl (upd (upd (upd (upd (upd (upd (fun _ => 0) (nI 0).toNatClampNeg (-1)) (nI 1).toNatClampNeg (-1)) (nI 2).toNatClampNeg (-1)) (nI 3).toNatClampNeg (-1)) (nI 4).toNatClampNeg (-1)) (nI 5).toNatClampNeg (-1))))) 76 (.inr (11, [.ref 77, .ref 78, .ref 79, .ref 80, .int 0, .int 0, .ref 81, .int 0, .ref 82, .ref 83, .ref 84, .ref 85, .ref 86, .int 0, .ref 87, .int (-1), .int 0, .int 0, .int 0, .int 0, .int 0, .ref 88, .ref 89, .ref 90, .ref 91, .int 0, .ref 92, .int 0, .int 0, .int 0, .ref 93, .ref 94, .int 0, .ref 95, .ref 96, .ref 97, .int 0, .ref 98, .ref 99, .int 0, .int 0, .int 0, .ref 100, .ref 101, .ref 102, .ref 103]))) 77 (.inl (0, 8, .inl (upd (fun _ => 0) (nI 6).toNatClampNeg (nI 6))))) 77 (.inl (0, 8, .inl (upd (upd (fun _ => 0) (nI 6).toNatClampNeg (nI 6)) (nI 7).toNatClampNeg (nI 1))))) 82 (.inl (0, 49, .inl (fiF (fun _ => -1) (fun _ => 0) 0 49)))) 84 (.inl (0, 49, .inl (fiF (fun _ => -1) (fun _ => 0) 0 49)))) 81 (.inl (0, 2401, .inl f81))
def w0 : Nat → jE := va_up (fun _ => jAbs) 4 (.inr (10, [.null, .null, .null, .null, .null, .null, .null, .null, .null, .int 0, .null, .null, .null]))
def w2 (c : Nat → jE) : Nat → jE := va_up c 76 (.inr (11, [.null, .null, .null, .null, .int 0, .int 0, .null, .int 0, .null, .null, .null, .null, .null, .int 0, .null, .int 0, .int 0, .int 0, .int 0, .int 0, .int 0, .null, .null, .null, .null, .int 0, .null, .int 0, .int 0, .int 0, .null, .null, .int 0, .null, .null, .null, .int 0, .null, .null, .int 0, .int 0, .int 0, .null, .null, .null, .null]))
def oI : Nat → Int32 := fiF (fun _ => -1) (fun _ => 0) 0 49
def stI : Nat → Int32 := upd (upd (fun _ => 0) (nI 6).toNatClampNeg (nI 6)) (nI 7).toNatClampNeg (nI 1)
def shI : Nat → Int32 := upd (upd (upd (upd (upd (upd (fun _ => 0) (nI 0).toNatClampNeg (-1)) (nI 1).toNatClampNeg (-1)) (nI 2).toNatClampNeg (-1)) (nI 3).toNatClampNeg (-1)) (nI 4).toNatClampNeg (-1)) (nI 5).toNatClampNeg (-1)
def xI (k q : Nat) : Int32 := if k = 15 then (if q = 3 then nI 19 else if q = 4 then nI 27 else 0) else if k = 16 then (if q = 5 then nI 1 else 0) else if k = 57 then (if q = 3 then nI 1 else 0) else if k = 76 then (if q = 15 then -1 else 0) else if 64 ≤ k ∧ k ≤ 74 then (if q = 1 then -2 else 0) else 0
def aI (f9 : Nat → Int32) (k : Nat) : Nat → Int32 := if k = 9 then f9 else if k = 11 ∨ k = 77 then stI else if k = 40 ∨ k = 44 ∨ k = 48 ∨ k = 52 ∨ k = 82 ∨ k = 84 then oI else if k = 42 ∨ k = 46 ∨ k = 50 ∨ k = 54 then eOf oI else if k = 100 then shI else fun _ => 0
def lZ : Nat → Nat → Int64 := fun _ _ => 0
theorem w_st {Q : Nat → Prop} {N : Nat} (n : Nat) (h : Q n) (k : ∀ k, n + 1 ≤ k → k < N → Q k) : ∀ k, n ≤ k → k < N → Q k := fun j h1 h2 => by
  by_cases e : j = n
  · subst e; exact h
  · exact k j (by omega) h2
theorem oI_in {j : Nat} (h : j < 49) : oI j = -1 := if_pos ⟨Nat.zero_le _, h⟩
theorem oI_out {j : Nat} (h : 49 ≤ j) : oI j = 0 := if_neg (by omega)
theorem oI_h {j : Nat} (h : j < 49) : heldB oI j = false := by
  unfold heldB
  rw [oI_in h]
  rfl
theorem eOf_oI {j : Nat} (h : j < 49) : eOf oI j = tDg j := by
  unfold eOf tDg nbL
  rw [if_pos h]
  unfold eN
  rw [cnt_filter]
  exact congrArg nI (cnt_eq fun x hx => by rw [oI_h hx]; simp)
theorem eOf_f {f7 : Nat → Int32} (h7 : ∀ j, j < 49 → f7 j = tDg j) (j : Nat) (hj : j < 49) : fiF f7 (fun _ => 0) 0 49 j = eOf oI j := by
  rw [eOf_oI hj, ← h7 j hj]
  exact if_pos ⟨Nat.zero_le _, hj⟩
theorem sh_eq : va_up (va_up (va_up (va_up (va_up (va_up (fun _ => none) (nI 0).toNatClampNeg (some 64)) (nI 1).toNatClampNeg (some 66)) (nI 2).toNatClampNeg (some 68)) (nI 3).toNatClampNeg (some 70)) (nI 4).toNatClampNeg (some 72)) (nI 5).toNatClampNeg (some 74) = tSh := by
  funext j
  by_cases h : j < 6
  · rcases (show j = 0 ∨ j = 1 ∨ j = 2 ∨ j = 3 ∨ j = 4 ∨ j = 5 by omega) with rfl | rfl | rfl | rfl | rfl | rfl <;> rfl
  · unfold tSh
    rw [if_neg h]
    have e0 : (nI 0).toNatClampNeg = 0 := rfl
    have e1 : (nI 1).toNatClampNeg = 1 := rfl
    have e2 : (nI 2).toNatClampNeg = 2 := rfl
    have e3 : (nI 3).toNatClampNeg = 3 := rfl
    have e4 : (nI 4).toNatClampNeg = 4 := rfl
    have e5 : (nI 5).toNatClampNeg = 5 := rfl
    rw [e0, e1, e2, e3, e4, e5, vu_n _ _ _ (by omega), vu_n _ _ _ (by omega), vu_n _ _ _ (by omega), vu_n _ _ _ (by omega), vu_n _ _ _ (by omega), vu_n _ _ _ (by omega)]
section FIRST
variable {f6 f7 f8 f9 f81 : Nat → Int32}
abbrev wN (f6 f7 f8 f9 f81 : Nat → Int32) : Nat → jE := w3 (w2 (w1 w0 f6 f7 f8 f9)) f81
set_option maxRecDepth 100000 in
theorem ch_4 : jeq (wN f6 f7 f8 f9 f81 4) (tcell 4 (xI 4) (aI f9 4) (lZ 4)) := Or.inl rfl
set_option maxRecDepth 100000 in
theorem ch_5 : jeq (wN f6 f7 f8 f9 f81 5) (tcell 5 (xI 5) (aI f9 5) (lZ 5)) := Or.inl rfl
set_option maxRecDepth 100000 in
theorem ch_6 (h : ∀ j, j < 294 → f6 j = tNb j) : jeq (wN f6 f7 f8 f9 f81 6) (tcell 6 (xI 6) (aI f9 6) (lZ 6)) := Or.inr ⟨294, f6, tNb, rfl, rfl, h⟩
set_option maxRecDepth 100000 in
theorem ch_7 (h : ∀ j, j < 49 → f7 j = tDg j) : jeq (wN f6 f7 f8 f9 f81 7) (tcell 7 (xI 7) (aI f9 7) (lZ 7)) := Or.inr ⟨49, f7, tDg, rfl, rfl, h⟩
set_option maxRecDepth 100000 in
theorem ch_8 (h : ∀ j, j < 2401 → f8 j = tDs j) : jeq (wN f6 f7 f8 f9 f81 8) (tcell 8 (xI 8) (aI f9 8) (lZ 8)) := Or.inr ⟨2401, f8, tDs, rfl, rfl, h⟩
set_option maxRecDepth 100000 in
theorem ch_9 : jeq (wN f6 f7 f8 f9 f81 9) (tcell 9 (xI 9) (aI f9 9) (lZ 9)) := Or.inl rfl
set_option maxRecDepth 100000 in
theorem ch_10 : jeq (wN f6 f7 f8 f9 f81 10) (tcell 10 (xI 10) (aI f9 10) (lZ 10)) := Or.inl rfl
set_option maxRecDepth 100000 in
theorem ch_11 : jeq (wN f6 f7 f8 f9 f81 11) (tcell 11 (xI 11) (aI f9 11) (lZ 11)) := Or.inl rfl
set_option maxRecDepth 100000 in
theorem ch_12 : jeq (wN f6 f7 f8 f9 f81 12) (tcell 12 (xI 12) (aI f9 12) (lZ 12)) := Or.inl rfl
set_option maxRecDepth 100000 in
theorem ch_13 : jeq (wN f6 f7 f8 f9 f81 13) (tcell 13 (xI 13) (aI f9 13) (lZ 13)) := Or.inl rfl
set_option maxRecDepth 100000 in
theorem ch_14 : jeq (wN f6 f7 f8 f9 f81 14) (tcell 14 (xI 14) (aI f9 14) (lZ 14)) := Or.inl rfl
set_option maxRecDepth 100000 in
theorem ch_15 : jeq (wN f6 f7 f8 f9 f81 15) (tcell 15 (xI 15) (aI f9 15) (lZ 15)) := Or.inl rfl
set_option maxRecDepth 100000 in
theorem ch_16 : jeq (wN f6 f7 f8 f9 f81 16) (tcell 16 (xI 16) (aI f9 16) (lZ 16)) := Or.inl rfl
set_option maxRecDepth 100000 in
theorem ch_17 : jeq (wN f6 f7 f8 f9 f81 17) (tcell 17 (xI 17) (aI f9 17) (lZ 17)) := Or.inl rfl
set_option maxRecDepth 100000 in
theorem ch_18 : jeq (wN f6 f7 f8 f9 f81 18) (tcell 18 (xI 18) (aI f9 18) (lZ 18)) := Or.inl rfl
set_option maxRecDepth 100000 in
theorem ch_19 : jeq (wN f6 f7 f8 f9 f81 19) (tcell 19 (xI 19) (aI f9 19) (lZ 19)) := Or.inl rfl
set_option maxRecDepth 100000 in
theorem ch_20 : jeq (wN f6 f7 f8 f9 f81 20) (tcell 20 (xI 20) (aI f9 20) (lZ 20)) := Or.inl rfl
set_option maxRecDepth 100000 in
theorem ch_21 : jeq (wN f6 f7 f8 f9 f81 21) (tcell 21 (xI 21) (aI f9 21) (lZ 21)) := Or.inl rfl
set_option maxRecDepth 100000 in
theorem ch_22 : jeq (wN f6 f7 f8 f9 f81 22) (tcell 22 (xI 22) (aI f9 22) (lZ 22)) := Or.inl rfl
set_option maxRecDepth 100000 in
theorem ch_23 : jeq (wN f6 f7 f8 f9 f81 23) (tcell 23 (xI 23) (aI f9 23) (lZ 23)) := Or.inl rfl
set_option maxRecDepth 100000 in
theorem ch_24 : jeq (wN f6 f7 f8 f9 f81 24) (tcell 24 (xI 24) (aI f9 24) (lZ 24)) := Or.inl rfl
set_option maxRecDepth 100000 in
theorem ch_25 : jeq (wN f6 f7 f8 f9 f81 25) (tcell 25 (xI 25) (aI f9 25) (lZ 25)) := Or.inl rfl
set_option maxRecDepth 100000 in
theorem ch_26 : jeq (wN f6 f7 f8 f9 f81 26) (tcell 26 (xI 26) (aI f9 26) (lZ 26)) := Or.inl rfl
set_option maxRecDepth 100000 in
theorem ch_27 : jeq (wN f6 f7 f8 f9 f81 27) (tcell 27 (xI 27) (aI f9 27) (lZ 27)) := Or.inl rfl
set_option maxRecDepth 100000 in
theorem ch_28 : jeq (wN f6 f7 f8 f9 f81 28) (tcell 28 (xI 28) (aI f9 28) (lZ 28)) := Or.inl rfl
set_option maxRecDepth 100000 in
theorem ch_29 : jeq (wN f6 f7 f8 f9 f81 29) (tcell 29 (xI 29) (aI f9 29) (lZ 29)) := Or.inl rfl
set_option maxRecDepth 100000 in
theorem ch_30 : jeq (wN f6 f7 f8 f9 f81 30) (tcell 30 (xI 30) (aI f9 30) (lZ 30)) := Or.inl rfl
set_option maxRecDepth 100000 in
theorem ch_31 : jeq (wN f6 f7 f8 f9 f81 31) (tcell 31 (xI 31) (aI f9 31) (lZ 31)) := Or.inl rfl
set_option maxRecDepth 100000 in
theorem ch_32 : jeq (wN f6 f7 f8 f9 f81 32) (tcell 32 (xI 32) (aI f9 32) (lZ 32)) := Or.inl rfl
set_option maxRecDepth 100000 in
theorem ch_33 : jeq (wN f6 f7 f8 f9 f81 33) (tcell 33 (xI 33) (aI f9 33) (lZ 33)) := Or.inl rfl
set_option maxRecDepth 100000 in
theorem ch_34 : jeq (wN f6 f7 f8 f9 f81 34) (tcell 34 (xI 34) (aI f9 34) (lZ 34)) := Or.inl rfl
set_option maxRecDepth 100000 in
theorem ch_35 : jeq (wN f6 f7 f8 f9 f81 35) (tcell 35 (xI 35) (aI f9 35) (lZ 35)) := Or.inl rfl
set_option maxRecDepth 100000 in
theorem ch_36 : jeq (wN f6 f7 f8 f9 f81 36) (tcell 36 (xI 36) (aI f9 36) (lZ 36)) := Or.inl rfl
set_option maxRecDepth 100000 in
theorem ch_37 : jeq (wN f6 f7 f8 f9 f81 37) (tcell 37 (xI 37) (aI f9 37) (lZ 37)) := Or.inl rfl
set_option maxRecDepth 100000 in
theorem ch_38 : jeq (wN f6 f7 f8 f9 f81 38) (tcell 38 (xI 38) (aI f9 38) (lZ 38)) := Or.inl rfl
set_option maxRecDepth 100000 in
theorem ch_39 : jeq (wN f6 f7 f8 f9 f81 39) (tcell 39 (xI 39) (aI f9 39) (lZ 39)) := Or.inl rfl
set_option maxRecDepth 100000 in
theorem ch_40 : jeq (wN f6 f7 f8 f9 f81 40) (tcell 40 (xI 40) (aI f9 40) (lZ 40)) := Or.inl rfl
set_option maxRecDepth 100000 in
theorem ch_41 : jeq (wN f6 f7 f8 f9 f81 41) (tcell 41 (xI 41) (aI f9 41) (lZ 41)) := Or.inl rfl
set_option maxRecDepth 100000 in
theorem ch_42 (h : ∀ j, j < 49 → f7 j = tDg j) : jeq (wN f6 f7 f8 f9 f81 42) (tcell 42 (xI 42) (aI f9 42) (lZ 42)) := Or.inr ⟨49, fiF f7 (fun _ => 0) 0 49, eOf oI, rfl, rfl, eOf_f h⟩
set_option maxRecDepth 100000 in
theorem ch_43 : jeq (wN f6 f7 f8 f9 f81 43) (tcell 43 (xI 43) (aI f9 43) (lZ 43)) := Or.inl rfl
set_option maxRecDepth 100000 in
theorem ch_44 : jeq (wN f6 f7 f8 f9 f81 44) (tcell 44 (xI 44) (aI f9 44) (lZ 44)) := Or.inl rfl
set_option maxRecDepth 100000 in
theorem ch_45 : jeq (wN f6 f7 f8 f9 f81 45) (tcell 45 (xI 45) (aI f9 45) (lZ 45)) := Or.inl rfl
set_option maxRecDepth 100000 in
theorem ch_46 (h : ∀ j, j < 49 → f7 j = tDg j) : jeq (wN f6 f7 f8 f9 f81 46) (tcell 46 (xI 46) (aI f9 46) (lZ 46)) := Or.inr ⟨49, fiF f7 (fun _ => 0) 0 49, eOf oI, rfl, rfl, eOf_f h⟩
set_option maxRecDepth 100000 in
theorem ch_47 : jeq (wN f6 f7 f8 f9 f81 47) (tcell 47 (xI 47) (aI f9 47) (lZ 47)) := Or.inl rfl
set_option maxRecDepth 100000 in
theorem ch_48 : jeq (wN f6 f7 f8 f9 f81 48) (tcell 48 (xI 48) (aI f9 48) (lZ 48)) := Or.inl rfl
set_option maxRecDepth 100000 in
theorem ch_49 : jeq (wN f6 f7 f8 f9 f81 49) (tcell 49 (xI 49) (aI f9 49) (lZ 49)) := Or.inl rfl
set_option maxRecDepth 100000 in
theorem ch_50 (h : ∀ j, j < 49 → f7 j = tDg j) : jeq (wN f6 f7 f8 f9 f81 50) (tcell 50 (xI 50) (aI f9 50) (lZ 50)) := Or.inr ⟨49, fiF f7 (fun _ => 0) 0 49, eOf oI, rfl, rfl, eOf_f h⟩
set_option maxRecDepth 100000 in
theorem ch_51 : jeq (wN f6 f7 f8 f9 f81 51) (tcell 51 (xI 51) (aI f9 51) (lZ 51)) := Or.inl rfl
set_option maxRecDepth 100000 in
theorem ch_52 : jeq (wN f6 f7 f8 f9 f81 52) (tcell 52 (xI 52) (aI f9 52) (lZ 52)) := Or.inl rfl
set_option maxRecDepth 100000 in
theorem ch_53 : jeq (wN f6 f7 f8 f9 f81 53) (tcell 53 (xI 53) (aI f9 53) (lZ 53)) := Or.inl rfl
set_option maxRecDepth 100000 in
theorem ch_54 (h : ∀ j, j < 49 → f7 j = tDg j) : jeq (wN f6 f7 f8 f9 f81 54) (tcell 54 (xI 54) (aI f9 54) (lZ 54)) := Or.inr ⟨49, fiF f7 (fun _ => 0) 0 49, eOf oI, rfl, rfl, eOf_f h⟩
set_option maxRecDepth 100000 in
theorem ch_55 : jeq (wN f6 f7 f8 f9 f81 55) (tcell 55 (xI 55) (aI f9 55) (lZ 55)) := Or.inl rfl
set_option maxRecDepth 100000 in
theorem ch_56 : jeq (wN f6 f7 f8 f9 f81 56) (tcell 56 (xI 56) (aI f9 56) (lZ 56)) := Or.inl rfl
set_option maxRecDepth 100000 in
theorem ch_57 : jeq (wN f6 f7 f8 f9 f81 57) (tcell 57 (xI 57) (aI f9 57) (lZ 57)) := Or.inl rfl
set_option maxRecDepth 100000 in
theorem ch_58 : jeq (wN f6 f7 f8 f9 f81 58) (tcell 58 (xI 58) (aI f9 58) (lZ 58)) := Or.inl rfl
set_option maxRecDepth 100000 in
theorem ch_59 : jeq (wN f6 f7 f8 f9 f81 59) (tcell 59 (xI 59) (aI f9 59) (lZ 59)) := Or.inl rfl
set_option maxRecDepth 100000 in
theorem ch_60 : jeq (wN f6 f7 f8 f9 f81 60) (tcell 60 (xI 60) (aI f9 60) (lZ 60)) := Or.inl rfl
set_option maxRecDepth 100000 in
theorem ch_61 : jeq (wN f6 f7 f8 f9 f81 61) (tcell 61 (xI 61) (aI f9 61) (lZ 61)) := Or.inl rfl
set_option maxRecDepth 100000 in
theorem ch_62 : jeq (wN f6 f7 f8 f9 f81 62) (tcell 62 (xI 62) (aI f9 62) (lZ 62)) := Or.inl rfl
set_option maxRecDepth 100000 in
theorem ch_63 : jeq (wN f6 f7 f8 f9 f81 63) (tcell 63 (xI 63) (aI f9 63) (lZ 63)) := Or.inl (congrArg (fun z => (.inl (3, 6, .inr (.inr (.inr (.inr z)))) : jE)) sh_eq)
set_option maxRecDepth 100000 in
theorem ch_64 : jeq (wN f6 f7 f8 f9 f81 64) (tcell 64 (xI 64) (aI f9 64) (lZ 64)) := Or.inl rfl
set_option maxRecDepth 100000 in
theorem ch_65 : jeq (wN f6 f7 f8 f9 f81 65) (tcell 65 (xI 65) (aI f9 65) (lZ 65)) := Or.inl rfl
set_option maxRecDepth 100000 in
theorem ch_66 : jeq (wN f6 f7 f8 f9 f81 66) (tcell 66 (xI 66) (aI f9 66) (lZ 66)) := Or.inl rfl
set_option maxRecDepth 100000 in
theorem ch_67 : jeq (wN f6 f7 f8 f9 f81 67) (tcell 67 (xI 67) (aI f9 67) (lZ 67)) := Or.inl rfl
set_option maxRecDepth 100000 in
theorem ch_68 : jeq (wN f6 f7 f8 f9 f81 68) (tcell 68 (xI 68) (aI f9 68) (lZ 68)) := Or.inl rfl
set_option maxRecDepth 100000 in
theorem ch_69 : jeq (wN f6 f7 f8 f9 f81 69) (tcell 69 (xI 69) (aI f9 69) (lZ 69)) := Or.inl rfl
set_option maxRecDepth 100000 in
theorem ch_70 : jeq (wN f6 f7 f8 f9 f81 70) (tcell 70 (xI 70) (aI f9 70) (lZ 70)) := Or.inl rfl
set_option maxRecDepth 100000 in
theorem ch_71 : jeq (wN f6 f7 f8 f9 f81 71) (tcell 71 (xI 71) (aI f9 71) (lZ 71)) := Or.inl rfl
set_option maxRecDepth 100000 in
theorem ch_72 : jeq (wN f6 f7 f8 f9 f81 72) (tcell 72 (xI 72) (aI f9 72) (lZ 72)) := Or.inl rfl
set_option maxRecDepth 100000 in
theorem ch_73 : jeq (wN f6 f7 f8 f9 f81 73) (tcell 73 (xI 73) (aI f9 73) (lZ 73)) := Or.inl rfl
set_option maxRecDepth 100000 in
theorem ch_74 : jeq (wN f6 f7 f8 f9 f81 74) (tcell 74 (xI 74) (aI f9 74) (lZ 74)) := Or.inl rfl
set_option maxRecDepth 100000 in
theorem ch_75 : jeq (wN f6 f7 f8 f9 f81 75) (tcell 75 (xI 75) (aI f9 75) (lZ 75)) := Or.inl rfl
set_option maxRecDepth 100000 in
theorem ch_76 : jeq (wN f6 f7 f8 f9 f81 76) (tcell 76 (xI 76) (aI f9 76) (lZ 76)) := Or.inl rfl
set_option maxRecDepth 100000 in
theorem ch_77 : jeq (wN f6 f7 f8 f9 f81 77) (tcell 77 (xI 77) (aI f9 77) (lZ 77)) := Or.inl rfl
set_option maxRecDepth 100000 in
theorem ch_78 : jeq (wN f6 f7 f8 f9 f81 78) (tcell 78 (xI 78) (aI f9 78) (lZ 78)) := Or.inl rfl
set_option maxRecDepth 100000 in
theorem ch_79 : jeq (wN f6 f7 f8 f9 f81 79) (tcell 79 (xI 79) (aI f9 79) (lZ 79)) := Or.inl rfl
set_option maxRecDepth 100000 in
theorem ch_80 : jeq (wN f6 f7 f8 f9 f81 80) (tcell 80 (xI 80) (aI f9 80) (lZ 80)) := Or.inl rfl
set_option maxRecDepth 100000 in
theorem ch_81 (h : ∀ j, j < 2401 → f81 j = tDs j) : jeq (wN f6 f7 f8 f9 f81 81) (tcell 81 (xI 81) (aI f9 81) (lZ 81)) := Or.inr ⟨2401, f81, tDs, rfl, rfl, h⟩
set_option maxRecDepth 100000 in
theorem ch_82 : jeq (wN f6 f7 f8 f9 f81 82) (tcell 82 (xI 82) (aI f9 82) (lZ 82)) := Or.inl rfl
set_option maxRecDepth 100000 in
theorem ch_83 : jeq (wN f6 f7 f8 f9 f81 83) (tcell 83 (xI 83) (aI f9 83) (lZ 83)) := Or.inl rfl
set_option maxRecDepth 100000 in
theorem ch_84 : jeq (wN f6 f7 f8 f9 f81 84) (tcell 84 (xI 84) (aI f9 84) (lZ 84)) := Or.inl rfl
set_option maxRecDepth 100000 in
theorem ch_85 : jeq (wN f6 f7 f8 f9 f81 85) (tcell 85 (xI 85) (aI f9 85) (lZ 85)) := Or.inl rfl
set_option maxRecDepth 100000 in
theorem ch_86 : jeq (wN f6 f7 f8 f9 f81 86) (tcell 86 (xI 86) (aI f9 86) (lZ 86)) := Or.inl rfl
set_option maxRecDepth 100000 in
theorem ch_87 : jeq (wN f6 f7 f8 f9 f81 87) (tcell 87 (xI 87) (aI f9 87) (lZ 87)) := Or.inl rfl
set_option maxRecDepth 100000 in
theorem ch_88 : jeq (wN f6 f7 f8 f9 f81 88) (tcell 88 (xI 88) (aI f9 88) (lZ 88)) := Or.inl rfl
set_option maxRecDepth 100000 in
theorem ch_89 : jeq (wN f6 f7 f8 f9 f81 89) (tcell 89 (xI 89) (aI f9 89) (lZ 89)) := Or.inl rfl
set_option maxRecDepth 100000 in
theorem ch_90 : jeq (wN f6 f7 f8 f9 f81 90) (tcell 90 (xI 90) (aI f9 90) (lZ 90)) := Or.inl rfl
set_option maxRecDepth 100000 in
theorem ch_91 : jeq (wN f6 f7 f8 f9 f81 91) (tcell 91 (xI 91) (aI f9 91) (lZ 91)) := Or.inl rfl
set_option maxRecDepth 100000 in
theorem ch_92 : jeq (wN f6 f7 f8 f9 f81 92) (tcell 92 (xI 92) (aI f9 92) (lZ 92)) := Or.inl rfl
set_option maxRecDepth 100000 in
theorem ch_93 : jeq (wN f6 f7 f8 f9 f81 93) (tcell 93 (xI 93) (aI f9 93) (lZ 93)) := Or.inl rfl
set_option maxRecDepth 100000 in
theorem ch_94 : jeq (wN f6 f7 f8 f9 f81 94) (tcell 94 (xI 94) (aI f9 94) (lZ 94)) := Or.inl rfl
set_option maxRecDepth 100000 in
theorem ch_95 : jeq (wN f6 f7 f8 f9 f81 95) (tcell 95 (xI 95) (aI f9 95) (lZ 95)) := Or.inl rfl
set_option maxRecDepth 100000 in
theorem ch_96 : jeq (wN f6 f7 f8 f9 f81 96) (tcell 96 (xI 96) (aI f9 96) (lZ 96)) := Or.inl rfl
set_option maxRecDepth 100000 in
theorem ch_97 : jeq (wN f6 f7 f8 f9 f81 97) (tcell 97 (xI 97) (aI f9 97) (lZ 97)) := Or.inl rfl
set_option maxRecDepth 100000 in
theorem ch_98 : jeq (wN f6 f7 f8 f9 f81 98) (tcell 98 (xI 98) (aI f9 98) (lZ 98)) := Or.inl rfl
set_option maxRecDepth 100000 in
theorem ch_99 : jeq (wN f6 f7 f8 f9 f81 99) (tcell 99 (xI 99) (aI f9 99) (lZ 99)) := Or.inl rfl
set_option maxRecDepth 100000 in
theorem ch_100 : jeq (wN f6 f7 f8 f9 f81 100) (tcell 100 (xI 100) (aI f9 100) (lZ 100)) := Or.inl rfl
set_option maxRecDepth 100000 in
theorem ch_101 : jeq (wN f6 f7 f8 f9 f81 101) (tcell 101 (xI 101) (aI f9 101) (lZ 101)) := Or.inl rfl
set_option maxRecDepth 100000 in
theorem ch_102 : jeq (wN f6 f7 f8 f9 f81 102) (tcell 102 (xI 102) (aI f9 102) (lZ 102)) := Or.inl rfl
set_option maxRecDepth 100000 in
theorem ch_103 : jeq (wN f6 f7 f8 f9 f81 103) (tcell 103 (xI 103) (aI f9 103) (lZ 103)) := Or.inl rfl
theorem wch_all (h6 : ∀ j, j < 294 → f6 j = tNb j) (h7 : ∀ j, j < 49 → f7 j = tDg j) (h8 : ∀ j, j < 2401 → f8 j = tDs j) (h81 : ∀ j, j < 2401 → f81 j = tDs j) : ∀ k, 4 ≤ k → k < 104 → jeq (wN f6 f7 f8 f9 f81 k) (tcell k (xI k) (aI f9 k) (lZ k)) := by
  refine w_st 4 ch_4 ?_
  refine w_st 5 ch_5 ?_
  refine w_st 6 (ch_6 h6) ?_
  refine w_st 7 (ch_7 h7) ?_
  refine w_st 8 (ch_8 h8) ?_
  refine w_st 9 ch_9 ?_
  refine w_st 10 ch_10 ?_
  refine w_st 11 ch_11 ?_
  refine w_st 12 ch_12 ?_
  refine w_st 13 ch_13 ?_
  refine w_st 14 ch_14 ?_
  refine w_st 15 ch_15 ?_
  refine w_st 16 ch_16 ?_
  refine w_st 17 ch_17 ?_
  refine w_st 18 ch_18 ?_
  refine w_st 19 ch_19 ?_
  refine w_st 20 ch_20 ?_
  refine w_st 21 ch_21 ?_
  refine w_st 22 ch_22 ?_
  refine w_st 23 ch_23 ?_
  refine w_st 24 ch_24 ?_
  refine w_st 25 ch_25 ?_
  refine w_st 26 ch_26 ?_
  refine w_st 27 ch_27 ?_
  refine w_st 28 ch_28 ?_
  refine w_st 29 ch_29 ?_
  refine w_st 30 ch_30 ?_
  refine w_st 31 ch_31 ?_
  refine w_st 32 ch_32 ?_
  refine w_st 33 ch_33 ?_
  refine w_st 34 ch_34 ?_
  refine w_st 35 ch_35 ?_
  refine w_st 36 ch_36 ?_
  refine w_st 37 ch_37 ?_
  refine w_st 38 ch_38 ?_
  refine w_st 39 ch_39 ?_
  refine w_st 40 ch_40 ?_
  refine w_st 41 ch_41 ?_
  refine w_st 42 (ch_42 h7) ?_
  refine w_st 43 ch_43 ?_
  refine w_st 44 ch_44 ?_
  refine w_st 45 ch_45 ?_
  refine w_st 46 (ch_46 h7) ?_
  refine w_st 47 ch_47 ?_
  refine w_st 48 ch_48 ?_
  refine w_st 49 ch_49 ?_
  refine w_st 50 (ch_50 h7) ?_
  refine w_st 51 ch_51 ?_
  refine w_st 52 ch_52 ?_
  refine w_st 53 ch_53 ?_
  refine w_st 54 (ch_54 h7) ?_
  refine w_st 55 ch_55 ?_
  refine w_st 56 ch_56 ?_
  refine w_st 57 ch_57 ?_
  refine w_st 58 ch_58 ?_
  refine w_st 59 ch_59 ?_
  refine w_st 60 ch_60 ?_
  refine w_st 61 ch_61 ?_
  refine w_st 62 ch_62 ?_
  refine w_st 63 ch_63 ?_
  refine w_st 64 ch_64 ?_
  refine w_st 65 ch_65 ?_
  refine w_st 66 ch_66 ?_
  refine w_st 67 ch_67 ?_
  refine w_st 68 ch_68 ?_
  refine w_st 69 ch_69 ?_
  refine w_st 70 ch_70 ?_
  refine w_st 71 ch_71 ?_
  refine w_st 72 ch_72 ?_
  refine w_st 73 ch_73 ?_
  refine w_st 74 ch_74 ?_
  refine w_st 75 ch_75 ?_
  refine w_st 76 ch_76 ?_
  refine w_st 77 ch_77 ?_
  refine w_st 78 ch_78 ?_
  refine w_st 79 ch_79 ?_
  refine w_st 80 ch_80 ?_
  refine w_st 81 (ch_81 h81) ?_
  refine w_st 82 ch_82 ?_
  refine w_st 83 ch_83 ?_
  refine w_st 84 ch_84 ?_
  refine w_st 85 ch_85 ?_
  refine w_st 86 ch_86 ?_
  refine w_st 87 ch_87 ?_
  refine w_st 88 ch_88 ?_
  refine w_st 89 ch_89 ?_
  refine w_st 90 ch_90 ?_
  refine w_st 91 ch_91 ?_
  refine w_st 92 ch_92 ?_
  refine w_st 93 ch_93 ?_
  refine w_st 94 ch_94 ?_
  refine w_st 95 ch_95 ?_
  refine w_st 96 ch_96 ?_
  refine w_st 97 ch_97 ?_
  refine w_st 98 ch_98 ?_
  refine w_st 99 ch_99 ?_
  refine w_st 100 ch_100 ?_
  refine w_st 101 ch_101 ?_
  refine w_st 102 ch_102 ?_
  refine w_st 103 ch_103 ?_
  exact fun k h1 h2 => absurd h1 (by omega)
end FIRST
