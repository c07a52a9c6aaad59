-- ===== what calls keep =====

